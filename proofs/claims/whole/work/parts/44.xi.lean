theorem lk_exso {σ s : lk_N} {t : Nat} {A B : Prop} {P : lk_O → Prop} (hA : A) (hB : B) (h : ∀ o, ¬ o = t → s o = σ o) (hp : P (s t)) : A ∧ B ∧ ∃ W, s = lk_so σ t W ∧ P W := by
  refine ⟨hA, hB, s t, ?_, hp⟩
  funext o
  by_cases e : o = t
  · subst e; rw [lk_so_eq]
  · rw [lk_so_ne e]; exact h o e
theorem lk_cur_c {P P' : lk_O} (h : P 0 = P' 0) (n a : Nat) : lk_cur P n a = lk_cur P' n a := by
  unfold lk_cur; rw [h]
/-- there is a figure at a, m at most -/
def lk_fgo (P : lk_O) (n a : Nat) (m : Int32) : Bool := decide (¬ lk_cur P n a - 48 < 0) && decide (lk_cur P n a - 48 ≤ m)
/-- a boat is read from a on: whether, and the place then -/
def lk_rdb (P : lk_O) (n a : Nat) (m : Int32) : Bool × Nat :=
  if (lk_rdn P n 4 a 0).1 = 0 then (false, (lk_rdn P n 4 a 0).2) else
  if ¬ lk_cur P n (lk_rdn P n 4 a 0).2 = 43 ∧ ¬ lk_cur P n (lk_rdn P n 4 a 0).2 = 45 then (false, (lk_rdn P n 4 a 0).2) else
  if lk_fgo P n ((lk_rdn P n 4 a 0).2 + 1) 9 = false then (false, (lk_rdn P n 4 a 0).2 + 1) else
  if lk_fgo P n ((lk_rdn P n 4 a 0).2 + 1 + 1) 9 = false then (false, (lk_rdn P n 4 a 0).2 + 1 + 1) else
  if lk_fgo P n ((lk_rdn P n 4 a 0).2 + 1 + 1 + 1) m = false then (false, (lk_rdn P n 4 a 0).2 + 1 + 1 + 1) else (true, (lk_rdn P n 4 a 0).2 + 1 + 1 + 1 + 1)
/-- the row of a boat that stands from a on -/
def lk_rdw (P : lk_O) (n a : Nat) : Nat → Int32 := fun f =>
  if f = 0 then (lk_rdn P n 4 a 0).1 else if f = 1 then lk_cur P n ((lk_rdn P n 4 a 0).2 + 1) - 48 else if f = 2 then lk_cur P n ((lk_rdn P n 4 a 0).2 + 1 + 1) - 48 else if f = 3 then (if lk_cur P n (lk_rdn P n 4 a 0).2 = 43 then 1 else 0) else lk_cur P n ((lk_rdn P n 4 a 0).2 + 1 + 1 + 1) - 48
theorem lk_fpl_le (B : lk_O) (w : Int32) : ∀ (m b : Nat), lk_fpl B w m b ≤ b + m
  | 0, b => Nat.le_refl _
  | m + 1, b => by
    unfold lk_fpl
    split
    · have := lk_fpl_le B w m (b + 1); omega
    · omega
/-- a boat's row goes into the fleet; the count then -/
def lk_fold (B : lk_O) (n : Nat) (w : Int32) : Bool := decide (lk_fpl B w n 0 < n) && decide (B 0 (lk_fpl B w n 0) = w)
def lk_fput (B : lk_O) (n : Nat) (r : Nat → Int32) : lk_O := if lk_fold B n (r 0) then lk_frow B (lk_fpl B (r 0) n 0) r else lk_frow (lk_fsh B (lk_fpl B (r 0) n 0) n) (lk_fpl B (r 0) n 0) r
def lk_fputn (B : lk_O) (n : Nat) (w : Int32) : Nat := if lk_fold B n w then n else n + 1
theorem lk_fput_5 (B : lk_O) {n : Nat} (r : Nat → Int32) (h : B 5 0 = nI n) : lk_fput B n r 5 0 = nI (lk_fputn B n (r 0)) := by
  unfold lk_fput lk_fputn
  split
  · simp [lk_frow, h]
  · simp [lk_frow, lk_fsh]
theorem lk_fput_3 (B : lk_O) {n : Nat} (r : Nat → Int32) (hn : n < 22) (h : ∀ i, i < 22 → B 3 i = 0 ∨ B 3 i = 1) (hr : r 3 = 0 ∨ r 3 = 1) : ∀ i, i < 22 → lk_fput B n r 3 i = 0 ∨ lk_fput B n r 3 i = 1 := by
  intro i hi
  unfold lk_fput
  split
  · simp only [lk_frow]
    split
    · exact hr
    · exact h i hi
  · simp only [lk_frow, lk_fsh]
    split
    · exact hr
    · split
      · exact h (i - 1) (by omega)
      · rw [if_neg (by omega)]; exact h i hi
theorem lk_fputn_le (B : lk_O) (n : Nat) (w : Int32) : lk_fputn B n w ≤ n + 1 := by
  unfold lk_fputn; split <;> omega
set_option maxHeartbeats 1000000 in
set_option maxRecDepth 100000 in
theorem tX6_readBoat (l : Launch) (X : lk_G) (d : Nat) (σ : lk_N) (τ : lk_T) (t : Nat) (ht : lk_ko t = 6) (n a : Nat) (hn : σ t 1 0 = nI n) (hn60 : n ≤ 60) (ha : σ t 2 0 = nI a) (ha64 : a ≤ 60) (han : a ≤ n) (m : Int32) : lk_Mt l X mX6_readBoat (d + 2) [lk_vr t 0, lk_vi (m)] σ τ (fun rr σ1 τ1 => rr = some (lk_vi (if (lk_rdb (σ t) n a m).1 = true then 1 else 0)) ∧ τ1 = τ ∧ ∃ W : lk_O, σ1 = lk_so σ t W ∧ (W 0 = σ t 0 ∧ W 1 = σ t 1 ∧ W 2 0 = nI (lk_rdb (σ t) n a m).2 ∧ ((lk_rdb (σ t) n a m).1 = true → (W 4 0 = 0 ∨ W 4 0 = 1) ∧ lk_trow W = lk_rdw (σ t) n a))) := by
  refine lk_met (L := [(0, lk_vr t 0), (1, lk_vi (m))]) (by decide +kernel) (Nat.le_of_ble_eq_true rfl) rfl ?_
  obtain ⟨Q, hQ⟩ : ∃ Q : lk_Q, Q = fun rr σ1 τ1 => rr = some (lk_vi (if (lk_rdb (σ t) n a m).1 = true then 1 else 0)) ∧ τ1 = τ ∧ ∃ W : lk_O, σ1 = lk_so σ t W ∧ (W 0 = σ t 0 ∧ W 1 = σ t 1 ∧ W 2 0 = nI (lk_rdb (σ t) n a m).2 ∧ ((lk_rdb (σ t) n a m).1 = true → (W 4 0 = 0 ∨ W 4 0 = 1) ∧ lk_trow W = lk_rdw (σ t) n a)) := ⟨_, rfl⟩
  rw [← hQ]
  have hle := lk_rdn_le (σ t) hn60 4 a 0 han
  refine lk_aload_n dX6_readBoat_0 rfl rfl ?_
  refine lk_aload_n dX6_readBoat_1 rfl rfl ?_
  refine lk_callV (o := t) (as := []) (S := [lk_vr t 0]) dX6_readBoat_2 rfl vX6_readName rfl lX6_20 ht rfl (Nat.le_of_ble_eq_true rfl) (tX6_readName l X d σ τ (t := t) (ht := ht) (n := n) (a := a) (hn := hn) (hn60 := hn60) (ha := ha) (ha64 := ha64)) ?_
  refine lk_k3 ?_
  refine lk_cast (pc' := 5) (S' := [lk_vi ((lk_rdn (σ t) n 4 a 0).1), lk_vr t 0]) rfl rfl rfl ?_
  refine lk_putI (f := 3) dX6_readBoat_5 ht fX6_24 (by decide) (by decide) ?_
  refine lk_aload_n dX6_readBoat_8 rfl rfl ?_
  refine lk_getIv (v := ((lk_rdn (σ t) n 4 a 0).1)) (f := 3) dX6_readBoat_9 ht fX6_24 (by decide) (by decide) (by simp [lk_up]) ?_
  refine lk_if_eq (tgt := 22) dX6_readBoat_12 (by decide) (fun hh1 => ?_) (fun hh1 => ?_)
  ·
    refine lk_iconst (v := 0) dX6_readBoat_22 (by decide) ?_
    refine lk_iret .boolean dX6_readBoat_23 rfl rfl ?_
    rw [hQ]
    first
      | (exfalso; simp_all; done)
      | (refine lk_exso ?_ rfl ?_ ?_
         · simp [lk_rdb, *]
         · intro o ho; funext f i; simp [lk_up, ho]
         · refine ⟨by funext i; simp [lk_up], by funext i; simp [lk_up], by simp [lk_up, lk_rdb, *], ?_⟩
           first
             | (intro hz; exfalso; simp [lk_rdb, *] at hz; done)
             | (intro _
                refine ⟨by simp [lk_up], funext fun f => ?_⟩
                rcases (show f = 0 ∨ f = 1 ∨ f = 2 ∨ f = 3 ∨ (¬ f = 0 ∧ ¬ f = 1 ∧ ¬ f = 2 ∧ ¬ f = 3) by omega) with rfl | rfl | rfl | rfl | hf <;> simp [lk_up, lk_trow, lk_rdw, *]))
  ·
    refine lk_aload_n dX6_readBoat_15 rfl rfl ?_
    rcases (show lk_cur (σ t) n ((lk_rdn (σ t) n 4 a 0).2) = 43 ∨ lk_cur (σ t) n ((lk_rdn (σ t) n 4 a 0).2) = 45 ∨ (¬ lk_cur (σ t) n ((lk_rdn (σ t) n 4 a 0).2) = 43 ∧ ¬ lk_cur (σ t) n ((lk_rdn (σ t) n 4 a 0).2) = 45) by grind) with h0 | h0 | h0
    ·
      refine lk_callV (o := t) (as := []) (S := []) dX6_readBoat_16 rfl vX6_readWay rfl lX6_27 ht rfl (Nat.le_of_ble_eq_true rfl) (tX6_readWay_p l X d (lk_up (lk_up σ t 2 0 (nI (lk_rdn (σ t) n 4 a 0).2)) t 3 0 ((lk_rdn (σ t) n 4 a 0).1)) τ (t := t) (ht := ht) (n := n) (a := (lk_rdn (σ t) n 4 a 0).2) (hn := by simp [lk_up, hn]) (hn60 := hn60) (ha := by simp [lk_up]) (ha64 := by omega) (h := (by rw [lk_cur_c (P' := σ t) (by funext i; simp [lk_up])]; exact h0))) ?_
      refine lk_k3 ?_
      refine lk_cast (pc' := 19) (S' := [lk_vi 1]) rfl rfl rfl ?_
      refine lk_if_ne (tgt := 24) dX6_readBoat_19 (by decide) (fun hh2 => ?_) (fun hh2 => absurd hh2 (by decide))
      refine lk_aload_n dX6_readBoat_24 rfl rfl ?_
      refine lk_aload_n dX6_readBoat_25 rfl rfl ?_
      refine lk_bipush (v := 9) dX6_readBoat_26 (by decide) ?_
      rcases hb1 : lk_fgo (σ t) n ((lk_rdn (σ t) n 4 a 0).2 + 1) 9 with _ | _
      ·
        have h1 : lk_cur (σ t) n ((lk_rdn (σ t) n 4 a 0).2 + 1) - 48 < 0 ∨ ¬ lk_cur (σ t) n ((lk_rdn (σ t) n 4 a 0).2 + 1) - 48 ≤ 9 := by simp only [lk_fgo] at hb1; grind
        refine lk_callV (o := t) (as := [lk_vi 9]) (S := [lk_vr t 0]) dX6_readBoat_28 rfl vX6_readFigure rfl lX6_31 ht rfl (Nat.le_of_ble_eq_true rfl) (tX6_readFigure_no l X d (lk_up (lk_up (lk_up (lk_up σ t 2 0 (nI (lk_rdn (σ t) n 4 a 0).2)) t 3 0 ((lk_rdn (σ t) n 4 a 0).1)) t 4 0 1) t 2 0 (nI (((lk_rdn (σ t) n 4 a 0).2) + 1))) τ (t := t) (m := 9) (ht := ht) (n := n) (a := (lk_rdn (σ t) n 4 a 0).2 + 1) (hn := by simp [lk_up, hn]) (hn60 := hn60) (ha := by simp [lk_up]) (ha64 := by omega) (h := (by rw [lk_cur_c (P' := σ t) (by funext i; simp [lk_up])]; exact h1))) ?_
        refine lk_k3 ?_
        refine lk_cast (pc' := 31) (S' := [lk_vi (-1), lk_vr t 0]) rfl rfl rfl ?_
        refine lk_putI (f := 5) dX6_readBoat_31 ht fX6_35 (by decide) (by decide) ?_
        refine lk_aload_n dX6_readBoat_34 rfl rfl ?_
        refine lk_aload_n dX6_readBoat_35 rfl rfl ?_
        refine lk_getI (f := 5) dX6_readBoat_36 ht fX6_35 (by decide) (by decide) ?_
        refine lk_if_ge (tgt := 46) dX6_readBoat_39 (by decide) (fun hh3 => absurd hh3 (show ¬ (0 : Int32) ≤ (lk_up (lk_up (lk_up (lk_up (lk_up σ t 2 0 (nI (lk_rdn (σ t) n 4 a 0).2)) t 3 0 ((lk_rdn (σ t) n 4 a 0).1)) t 4 0 1) t 2 0 (nI (((lk_rdn (σ t) n 4 a 0).2) + 1))) t 5 0 (-1)) t 5 0 by rw [show (lk_up (lk_up (lk_up (lk_up (lk_up σ t 2 0 (nI (lk_rdn (σ t) n 4 a 0).2)) t 3 0 ((lk_rdn (σ t) n 4 a 0).1)) t 4 0 1) t 2 0 (nI (((lk_rdn (σ t) n 4 a 0).2) + 1))) t 5 0 (-1)) t 5 0 = -1 by simp [lk_up]]; decide)) (fun hh3 => ?_)
        refine lk_iconst (v := (-1)) dX6_readBoat_42 (by decide) ?_
        refine lk_goto (tgt := 52) dX6_readBoat_43 (by decide) ?_
        refine lk_putI (f := 6) dX6_readBoat_52 ht fX6_38 (by decide) (by decide) ?_
        refine lk_aload_n dX6_readBoat_55 rfl rfl ?_
        refine lk_aload_n dX6_readBoat_56 rfl rfl ?_
        refine lk_getI (f := 6) dX6_readBoat_57 ht fX6_38 (by decide) (by decide) ?_
        refine lk_if_ge (tgt := 67) dX6_readBoat_60 (by decide) (fun hh4 => absurd hh4 (show ¬ (0 : Int32) ≤ (lk_up (lk_up (lk_up (lk_up (lk_up (lk_up σ t 2 0 (nI (lk_rdn (σ t) n 4 a 0).2)) t 3 0 ((lk_rdn (σ t) n 4 a 0).1)) t 4 0 1) t 2 0 (nI (((lk_rdn (σ t) n 4 a 0).2) + 1))) t 5 0 (-1)) t 6 0 (-1)) t 6 0 by rw [show (lk_up (lk_up (lk_up (lk_up (lk_up (lk_up σ t 2 0 (nI (lk_rdn (σ t) n 4 a 0).2)) t 3 0 ((lk_rdn (σ t) n 4 a 0).1)) t 4 0 1) t 2 0 (nI (((lk_rdn (σ t) n 4 a 0).2) + 1))) t 5 0 (-1)) t 6 0 (-1)) t 6 0 = -1 by simp [lk_up]]; decide)) (fun hh4 => ?_)
        refine lk_iconst (v := (-1)) dX6_readBoat_63 (by decide) ?_
        refine lk_goto (tgt := 72) dX6_readBoat_64 (by decide) ?_
        refine lk_putI (f := 7) dX6_readBoat_72 ht fX6_41 (by decide) (by decide) ?_
        refine lk_aload_n dX6_readBoat_75 rfl rfl ?_
        refine lk_getI (f := 7) dX6_readBoat_76 ht fX6_41 (by decide) (by decide) ?_
        refine lk_if_lt (tgt := 86) dX6_readBoat_79 (by decide) (fun hh5 => ?_) (fun hh5 => absurd hh5 (fun z => z (show (lk_up (lk_up (lk_up (lk_up (lk_up (lk_up (lk_up σ t 2 0 (nI (lk_rdn (σ t) n 4 a 0).2)) t 3 0 ((lk_rdn (σ t) n 4 a 0).1)) t 4 0 1) t 2 0 (nI (((lk_rdn (σ t) n 4 a 0).2) + 1))) t 5 0 (-1)) t 6 0 (-1)) t 7 0 (-1)) t 7 0 < 0 by rw [show (lk_up (lk_up (lk_up (lk_up (lk_up (lk_up (lk_up σ t 2 0 (nI (lk_rdn (σ t) n 4 a 0).2)) t 3 0 ((lk_rdn (σ t) n 4 a 0).1)) t 4 0 1) t 2 0 (nI (((lk_rdn (σ t) n 4 a 0).2) + 1))) t 5 0 (-1)) t 6 0 (-1)) t 7 0 (-1)) t 7 0 = -1 by simp [lk_up]]; decide)))
        refine lk_iconst (v := 0) dX6_readBoat_86 (by decide) ?_
        refine lk_iret .boolean dX6_readBoat_87 rfl rfl ?_
        rw [hQ]
        first
          | (exfalso; simp_all; done)
          | (refine lk_exso ?_ rfl ?_ ?_
             · simp [lk_rdb, *]
             · intro o ho; funext f i; simp [lk_up, ho]
             · refine ⟨by funext i; simp [lk_up], by funext i; simp [lk_up], by simp [lk_up, lk_rdb, *], ?_⟩
               first
                 | (intro hz; exfalso; simp [lk_rdb, *] at hz; done)
                 | (intro _
                    refine ⟨by simp [lk_up], funext fun f => ?_⟩
                    rcases (show f = 0 ∨ f = 1 ∨ f = 2 ∨ f = 3 ∨ (¬ f = 0 ∧ ¬ f = 1 ∧ ¬ f = 2 ∧ ¬ f = 3) by omega) with rfl | rfl | rfl | rfl | hf <;> simp [lk_up, lk_trow, lk_rdw, *]))
      ·
        have h1 : ¬ lk_cur (σ t) n ((lk_rdn (σ t) n 4 a 0).2 + 1) - 48 < 0 ∧ lk_cur (σ t) n ((lk_rdn (σ t) n 4 a 0).2 + 1) - 48 ≤ 9 := by simp only [lk_fgo] at hb1; grind
        refine lk_callV (o := t) (as := [lk_vi 9]) (S := [lk_vr t 0]) dX6_readBoat_28 rfl vX6_readFigure rfl lX6_31 ht rfl (Nat.le_of_ble_eq_true rfl) (tX6_readFigure_ok l X d (lk_up (lk_up (lk_up (lk_up σ t 2 0 (nI (lk_rdn (σ t) n 4 a 0).2)) t 3 0 ((lk_rdn (σ t) n 4 a 0).1)) t 4 0 1) t 2 0 (nI (((lk_rdn (σ t) n 4 a 0).2) + 1))) τ (t := t) (m := 9) (ht := ht) (n := n) (a := (lk_rdn (σ t) n 4 a 0).2 + 1) (hn := by simp [lk_up, hn]) (hn60 := hn60) (ha := by simp [lk_up]) (ha64 := by omega) (h := by rw [lk_cur_c (P' := σ t) (by funext i; simp [lk_up])]; exact h1.1) (h2 := by rw [lk_cur_c (P' := σ t) (by funext i; simp [lk_up])]; exact h1.2)) ?_
        refine lk_k3 ?_
        refine lk_cast (pc' := 31) (S' := [lk_vi (lk_cur ((lk_up (lk_up (lk_up (lk_up σ t 2 0 (nI (lk_rdn (σ t) n 4 a 0).2)) t 3 0 ((lk_rdn (σ t) n 4 a 0).1)) t 4 0 1) t 2 0 (nI (((lk_rdn (σ t) n 4 a 0).2) + 1))) t) n ((lk_rdn (σ t) n 4 a 0).2 + 1) - 48), lk_vr t 0]) rfl rfl rfl ?_
        refine lk_eqtop (y := (lk_cur (σ t) n ((lk_rdn (σ t) n 4 a 0).2 + 1) - 48)) (by rw [lk_cur_c (P' := σ t) (by funext i; simp [lk_up])]) ?_
        refine lk_putI (f := 5) dX6_readBoat_31 ht fX6_35 (by decide) (by decide) ?_
        refine lk_aload_n dX6_readBoat_34 rfl rfl ?_
        refine lk_aload_n dX6_readBoat_35 rfl rfl ?_
        refine lk_getI (f := 5) dX6_readBoat_36 ht fX6_35 (by decide) (by decide) ?_
        refine lk_if_ge (tgt := 46) dX6_readBoat_39 (by decide) (fun hh6 => ?_) (fun hh6 => absurd hh6 (fun z => z (show (0 : Int32) ≤ (lk_up (lk_up (lk_up (lk_up (lk_up (lk_up σ t 2 0 (nI (lk_rdn (σ t) n 4 a 0).2)) t 3 0 ((lk_rdn (σ t) n 4 a 0).1)) t 4 0 1) t 2 0 (nI (((lk_rdn (σ t) n 4 a 0).2) + 1))) t 2 0 (nI (((lk_rdn (σ t) n 4 a 0).2 + 1) + 1))) t 5 0 (lk_cur (σ t) n ((lk_rdn (σ t) n 4 a 0).2 + 1) - 48)) t 5 0 by rw [show (lk_up (lk_up (lk_up (lk_up (lk_up (lk_up σ t 2 0 (nI (lk_rdn (σ t) n 4 a 0).2)) t 3 0 ((lk_rdn (σ t) n 4 a 0).1)) t 4 0 1) t 2 0 (nI (((lk_rdn (σ t) n 4 a 0).2) + 1))) t 2 0 (nI (((lk_rdn (σ t) n 4 a 0).2 + 1) + 1))) t 5 0 (lk_cur (σ t) n ((lk_rdn (σ t) n 4 a 0).2 + 1) - 48)) t 5 0 = lk_cur (σ t) n ((lk_rdn (σ t) n 4 a 0).2 + 1) - 48 by simp [lk_up]]; exact Int32.not_lt.mp h1.1)))
        refine lk_aload_n dX6_readBoat_46 rfl rfl ?_
        refine lk_bipush (v := 9) dX6_readBoat_47 (by decide) ?_
        rcases hb2 : lk_fgo (σ t) n ((lk_rdn (σ t) n 4 a 0).2 + 1 + 1) 9 with _ | _
        ·
          have h2 : lk_cur (σ t) n ((lk_rdn (σ t) n 4 a 0).2 + 1 + 1) - 48 < 0 ∨ ¬ lk_cur (σ t) n ((lk_rdn (σ t) n 4 a 0).2 + 1 + 1) - 48 ≤ 9 := by simp only [lk_fgo] at hb2; grind
          refine lk_callV (o := t) (as := [lk_vi 9]) (S := [lk_vr t 0]) dX6_readBoat_49 rfl vX6_readFigure rfl lX6_31 ht rfl (Nat.le_of_ble_eq_true rfl) (tX6_readFigure_no l X d (lk_up (lk_up (lk_up (lk_up (lk_up (lk_up σ t 2 0 (nI (lk_rdn (σ t) n 4 a 0).2)) t 3 0 ((lk_rdn (σ t) n 4 a 0).1)) t 4 0 1) t 2 0 (nI (((lk_rdn (σ t) n 4 a 0).2) + 1))) t 2 0 (nI (((lk_rdn (σ t) n 4 a 0).2 + 1) + 1))) t 5 0 (lk_cur (σ t) n ((lk_rdn (σ t) n 4 a 0).2 + 1) - 48)) τ (t := t) (m := 9) (ht := ht) (n := n) (a := (lk_rdn (σ t) n 4 a 0).2 + 1 + 1) (hn := by simp [lk_up, hn]) (hn60 := hn60) (ha := by simp [lk_up]) (ha64 := by omega) (h := (by rw [lk_cur_c (P' := σ t) (by funext i; simp [lk_up])]; exact h2))) ?_
          refine lk_k3 ?_
          refine lk_cast (pc' := 52) (S' := [lk_vi (-1), lk_vr t 0]) rfl rfl rfl ?_
          refine lk_putI (f := 6) dX6_readBoat_52 ht fX6_38 (by decide) (by decide) ?_
          refine lk_aload_n dX6_readBoat_55 rfl rfl ?_
          refine lk_aload_n dX6_readBoat_56 rfl rfl ?_
          refine lk_getI (f := 6) dX6_readBoat_57 ht fX6_38 (by decide) (by decide) ?_
          refine lk_if_ge (tgt := 67) dX6_readBoat_60 (by decide) (fun hh7 => absurd hh7 (show ¬ (0 : Int32) ≤ (lk_up (lk_up (lk_up (lk_up (lk_up (lk_up (lk_up σ t 2 0 (nI (lk_rdn (σ t) n 4 a 0).2)) t 3 0 ((lk_rdn (σ t) n 4 a 0).1)) t 4 0 1) t 2 0 (nI (((lk_rdn (σ t) n 4 a 0).2) + 1))) t 2 0 (nI (((lk_rdn (σ t) n 4 a 0).2 + 1) + 1))) t 5 0 (lk_cur (σ t) n ((lk_rdn (σ t) n 4 a 0).2 + 1) - 48)) t 6 0 (-1)) t 6 0 by rw [show (lk_up (lk_up (lk_up (lk_up (lk_up (lk_up (lk_up σ t 2 0 (nI (lk_rdn (σ t) n 4 a 0).2)) t 3 0 ((lk_rdn (σ t) n 4 a 0).1)) t 4 0 1) t 2 0 (nI (((lk_rdn (σ t) n 4 a 0).2) + 1))) t 2 0 (nI (((lk_rdn (σ t) n 4 a 0).2 + 1) + 1))) t 5 0 (lk_cur (σ t) n ((lk_rdn (σ t) n 4 a 0).2 + 1) - 48)) t 6 0 (-1)) t 6 0 = -1 by simp [lk_up]]; decide)) (fun hh7 => ?_)
          refine lk_iconst (v := (-1)) dX6_readBoat_63 (by decide) ?_
          refine lk_goto (tgt := 72) dX6_readBoat_64 (by decide) ?_
          refine lk_putI (f := 7) dX6_readBoat_72 ht fX6_41 (by decide) (by decide) ?_
          refine lk_aload_n dX6_readBoat_75 rfl rfl ?_
          refine lk_getI (f := 7) dX6_readBoat_76 ht fX6_41 (by decide) (by decide) ?_
          refine lk_if_lt (tgt := 86) dX6_readBoat_79 (by decide) (fun hh8 => ?_) (fun hh8 => absurd hh8 (fun z => z (show (lk_up (lk_up (lk_up (lk_up (lk_up (lk_up (lk_up (lk_up σ t 2 0 (nI (lk_rdn (σ t) n 4 a 0).2)) t 3 0 ((lk_rdn (σ t) n 4 a 0).1)) t 4 0 1) t 2 0 (nI (((lk_rdn (σ t) n 4 a 0).2) + 1))) t 2 0 (nI (((lk_rdn (σ t) n 4 a 0).2 + 1) + 1))) t 5 0 (lk_cur (σ t) n ((lk_rdn (σ t) n 4 a 0).2 + 1) - 48)) t 6 0 (-1)) t 7 0 (-1)) t 7 0 < 0 by rw [show (lk_up (lk_up (lk_up (lk_up (lk_up (lk_up (lk_up (lk_up σ t 2 0 (nI (lk_rdn (σ t) n 4 a 0).2)) t 3 0 ((lk_rdn (σ t) n 4 a 0).1)) t 4 0 1) t 2 0 (nI (((lk_rdn (σ t) n 4 a 0).2) + 1))) t 2 0 (nI (((lk_rdn (σ t) n 4 a 0).2 + 1) + 1))) t 5 0 (lk_cur (σ t) n ((lk_rdn (σ t) n 4 a 0).2 + 1) - 48)) t 6 0 (-1)) t 7 0 (-1)) t 7 0 = -1 by simp [lk_up]]; decide)))
          refine lk_iconst (v := 0) dX6_readBoat_86 (by decide) ?_
          refine lk_iret .boolean dX6_readBoat_87 rfl rfl ?_
          rw [hQ]
          first
            | (exfalso; simp_all; done)
            | (refine lk_exso ?_ rfl ?_ ?_
               · simp [lk_rdb, *]
               · intro o ho; funext f i; simp [lk_up, ho]
               · refine ⟨by funext i; simp [lk_up], by funext i; simp [lk_up], by simp [lk_up, lk_rdb, *], ?_⟩
                 first
                   | (intro hz; exfalso; simp [lk_rdb, *] at hz; done)
                   | (intro _
                      refine ⟨by simp [lk_up], funext fun f => ?_⟩
                      rcases (show f = 0 ∨ f = 1 ∨ f = 2 ∨ f = 3 ∨ (¬ f = 0 ∧ ¬ f = 1 ∧ ¬ f = 2 ∧ ¬ f = 3) by omega) with rfl | rfl | rfl | rfl | hf <;> simp [lk_up, lk_trow, lk_rdw, *]))
        ·
          have h2 : ¬ lk_cur (σ t) n ((lk_rdn (σ t) n 4 a 0).2 + 1 + 1) - 48 < 0 ∧ lk_cur (σ t) n ((lk_rdn (σ t) n 4 a 0).2 + 1 + 1) - 48 ≤ 9 := by simp only [lk_fgo] at hb2; grind
          refine lk_callV (o := t) (as := [lk_vi 9]) (S := [lk_vr t 0]) dX6_readBoat_49 rfl vX6_readFigure rfl lX6_31 ht rfl (Nat.le_of_ble_eq_true rfl) (tX6_readFigure_ok l X d (lk_up (lk_up (lk_up (lk_up (lk_up (lk_up σ t 2 0 (nI (lk_rdn (σ t) n 4 a 0).2)) t 3 0 ((lk_rdn (σ t) n 4 a 0).1)) t 4 0 1) t 2 0 (nI (((lk_rdn (σ t) n 4 a 0).2) + 1))) t 2 0 (nI (((lk_rdn (σ t) n 4 a 0).2 + 1) + 1))) t 5 0 (lk_cur (σ t) n ((lk_rdn (σ t) n 4 a 0).2 + 1) - 48)) τ (t := t) (m := 9) (ht := ht) (n := n) (a := (lk_rdn (σ t) n 4 a 0).2 + 1 + 1) (hn := by simp [lk_up, hn]) (hn60 := hn60) (ha := by simp [lk_up]) (ha64 := by omega) (h := by rw [lk_cur_c (P' := σ t) (by funext i; simp [lk_up])]; exact h2.1) (h2 := by rw [lk_cur_c (P' := σ t) (by funext i; simp [lk_up])]; exact h2.2)) ?_
          refine lk_k3 ?_
          refine lk_cast (pc' := 52) (S' := [lk_vi (lk_cur ((lk_up (lk_up (lk_up (lk_up (lk_up (lk_up σ t 2 0 (nI (lk_rdn (σ t) n 4 a 0).2)) t 3 0 ((lk_rdn (σ t) n 4 a 0).1)) t 4 0 1) t 2 0 (nI (((lk_rdn (σ t) n 4 a 0).2) + 1))) t 2 0 (nI (((lk_rdn (σ t) n 4 a 0).2 + 1) + 1))) t 5 0 (lk_cur (σ t) n ((lk_rdn (σ t) n 4 a 0).2 + 1) - 48)) t) n ((lk_rdn (σ t) n 4 a 0).2 + 1 + 1) - 48), lk_vr t 0]) rfl rfl rfl ?_
          refine lk_eqtop (y := (lk_cur (σ t) n ((lk_rdn (σ t) n 4 a 0).2 + 1 + 1) - 48)) (by rw [lk_cur_c (P' := σ t) (by funext i; simp [lk_up])]) ?_
          refine lk_putI (f := 6) dX6_readBoat_52 ht fX6_38 (by decide) (by decide) ?_
          refine lk_aload_n dX6_readBoat_55 rfl rfl ?_
          refine lk_aload_n dX6_readBoat_56 rfl rfl ?_
          refine lk_getI (f := 6) dX6_readBoat_57 ht fX6_38 (by decide) (by decide) ?_
          refine lk_if_ge (tgt := 67) dX6_readBoat_60 (by decide) (fun hh9 => ?_) (fun hh9 => absurd hh9 (fun z => z (show (0 : Int32) ≤ (lk_up (lk_up (lk_up (lk_up (lk_up (lk_up (lk_up (lk_up σ t 2 0 (nI (lk_rdn (σ t) n 4 a 0).2)) t 3 0 ((lk_rdn (σ t) n 4 a 0).1)) t 4 0 1) t 2 0 (nI (((lk_rdn (σ t) n 4 a 0).2) + 1))) t 2 0 (nI (((lk_rdn (σ t) n 4 a 0).2 + 1) + 1))) t 5 0 (lk_cur (σ t) n ((lk_rdn (σ t) n 4 a 0).2 + 1) - 48)) t 2 0 (nI (((lk_rdn (σ t) n 4 a 0).2 + 1 + 1) + 1))) t 6 0 (lk_cur (σ t) n ((lk_rdn (σ t) n 4 a 0).2 + 1 + 1) - 48)) t 6 0 by rw [show (lk_up (lk_up (lk_up (lk_up (lk_up (lk_up (lk_up (lk_up σ t 2 0 (nI (lk_rdn (σ t) n 4 a 0).2)) t 3 0 ((lk_rdn (σ t) n 4 a 0).1)) t 4 0 1) t 2 0 (nI (((lk_rdn (σ t) n 4 a 0).2) + 1))) t 2 0 (nI (((lk_rdn (σ t) n 4 a 0).2 + 1) + 1))) t 5 0 (lk_cur (σ t) n ((lk_rdn (σ t) n 4 a 0).2 + 1) - 48)) t 2 0 (nI (((lk_rdn (σ t) n 4 a 0).2 + 1 + 1) + 1))) t 6 0 (lk_cur (σ t) n ((lk_rdn (σ t) n 4 a 0).2 + 1 + 1) - 48)) t 6 0 = lk_cur (σ t) n ((lk_rdn (σ t) n 4 a 0).2 + 1 + 1) - 48 by simp [lk_up]]; exact Int32.not_lt.mp h2.1)))
          refine lk_aload_n dX6_readBoat_67 rfl rfl ?_
          refine lk_iload_n dX6_readBoat_68 rfl rfl ?_
          rcases hb3 : lk_fgo (σ t) n ((lk_rdn (σ t) n 4 a 0).2 + 1 + 1 + 1) m with _ | _
          ·
            have h3 : lk_cur (σ t) n ((lk_rdn (σ t) n 4 a 0).2 + 1 + 1 + 1) - 48 < 0 ∨ ¬ lk_cur (σ t) n ((lk_rdn (σ t) n 4 a 0).2 + 1 + 1 + 1) - 48 ≤ m := by simp only [lk_fgo] at hb3; grind
            refine lk_callV (o := t) (as := [lk_vi (m)]) (S := [lk_vr t 0]) dX6_readBoat_69 rfl vX6_readFigure rfl lX6_31 ht rfl (Nat.le_of_ble_eq_true rfl) (tX6_readFigure_no l X d (lk_up (lk_up (lk_up (lk_up (lk_up (lk_up (lk_up (lk_up σ t 2 0 (nI (lk_rdn (σ t) n 4 a 0).2)) t 3 0 ((lk_rdn (σ t) n 4 a 0).1)) t 4 0 1) t 2 0 (nI (((lk_rdn (σ t) n 4 a 0).2) + 1))) t 2 0 (nI (((lk_rdn (σ t) n 4 a 0).2 + 1) + 1))) t 5 0 (lk_cur (σ t) n ((lk_rdn (σ t) n 4 a 0).2 + 1) - 48)) t 2 0 (nI (((lk_rdn (σ t) n 4 a 0).2 + 1 + 1) + 1))) t 6 0 (lk_cur (σ t) n ((lk_rdn (σ t) n 4 a 0).2 + 1 + 1) - 48)) τ (t := t) (m := (m)) (ht := ht) (n := n) (a := (lk_rdn (σ t) n 4 a 0).2 + 1 + 1 + 1) (hn := by simp [lk_up, hn]) (hn60 := hn60) (ha := by simp [lk_up]) (ha64 := by omega) (h := (by rw [lk_cur_c (P' := σ t) (by funext i; simp [lk_up])]; exact h3))) ?_
            refine lk_k3 ?_
            refine lk_cast (pc' := 72) (S' := [lk_vi (-1), lk_vr t 0]) rfl rfl rfl ?_
            refine lk_putI (f := 7) dX6_readBoat_72 ht fX6_41 (by decide) (by decide) ?_
            refine lk_aload_n dX6_readBoat_75 rfl rfl ?_
            refine lk_getI (f := 7) dX6_readBoat_76 ht fX6_41 (by decide) (by decide) ?_
            refine lk_if_lt (tgt := 86) dX6_readBoat_79 (by decide) (fun hh10 => ?_) (fun hh10 => absurd hh10 (fun z => z (show (lk_up (lk_up (lk_up (lk_up (lk_up (lk_up (lk_up (lk_up (lk_up σ t 2 0 (nI (lk_rdn (σ t) n 4 a 0).2)) t 3 0 ((lk_rdn (σ t) n 4 a 0).1)) t 4 0 1) t 2 0 (nI (((lk_rdn (σ t) n 4 a 0).2) + 1))) t 2 0 (nI (((lk_rdn (σ t) n 4 a 0).2 + 1) + 1))) t 5 0 (lk_cur (σ t) n ((lk_rdn (σ t) n 4 a 0).2 + 1) - 48)) t 2 0 (nI (((lk_rdn (σ t) n 4 a 0).2 + 1 + 1) + 1))) t 6 0 (lk_cur (σ t) n ((lk_rdn (σ t) n 4 a 0).2 + 1 + 1) - 48)) t 7 0 (-1)) t 7 0 < 0 by rw [show (lk_up (lk_up (lk_up (lk_up (lk_up (lk_up (lk_up (lk_up (lk_up σ t 2 0 (nI (lk_rdn (σ t) n 4 a 0).2)) t 3 0 ((lk_rdn (σ t) n 4 a 0).1)) t 4 0 1) t 2 0 (nI (((lk_rdn (σ t) n 4 a 0).2) + 1))) t 2 0 (nI (((lk_rdn (σ t) n 4 a 0).2 + 1) + 1))) t 5 0 (lk_cur (σ t) n ((lk_rdn (σ t) n 4 a 0).2 + 1) - 48)) t 2 0 (nI (((lk_rdn (σ t) n 4 a 0).2 + 1 + 1) + 1))) t 6 0 (lk_cur (σ t) n ((lk_rdn (σ t) n 4 a 0).2 + 1 + 1) - 48)) t 7 0 (-1)) t 7 0 = -1 by simp [lk_up]]; decide)))
            refine lk_iconst (v := 0) dX6_readBoat_86 (by decide) ?_
            refine lk_iret .boolean dX6_readBoat_87 rfl rfl ?_
            rw [hQ]
            first
              | (exfalso; simp_all; done)
              | (refine lk_exso ?_ rfl ?_ ?_
                 · simp [lk_rdb, *]
                 · intro o ho; funext f i; simp [lk_up, ho]
                 · refine ⟨by funext i; simp [lk_up], by funext i; simp [lk_up], by simp [lk_up, lk_rdb, *], ?_⟩
                   first
                     | (intro hz; exfalso; simp [lk_rdb, *] at hz; done)
                     | (intro _
                        refine ⟨by simp [lk_up], funext fun f => ?_⟩
                        rcases (show f = 0 ∨ f = 1 ∨ f = 2 ∨ f = 3 ∨ (¬ f = 0 ∧ ¬ f = 1 ∧ ¬ f = 2 ∧ ¬ f = 3) by omega) with rfl | rfl | rfl | rfl | hf <;> simp [lk_up, lk_trow, lk_rdw, *]))
          ·
            have h3 : ¬ lk_cur (σ t) n ((lk_rdn (σ t) n 4 a 0).2 + 1 + 1 + 1) - 48 < 0 ∧ lk_cur (σ t) n ((lk_rdn (σ t) n 4 a 0).2 + 1 + 1 + 1) - 48 ≤ m := by simp only [lk_fgo] at hb3; grind
            refine lk_callV (o := t) (as := [lk_vi (m)]) (S := [lk_vr t 0]) dX6_readBoat_69 rfl vX6_readFigure rfl lX6_31 ht rfl (Nat.le_of_ble_eq_true rfl) (tX6_readFigure_ok l X d (lk_up (lk_up (lk_up (lk_up (lk_up (lk_up (lk_up (lk_up σ t 2 0 (nI (lk_rdn (σ t) n 4 a 0).2)) t 3 0 ((lk_rdn (σ t) n 4 a 0).1)) t 4 0 1) t 2 0 (nI (((lk_rdn (σ t) n 4 a 0).2) + 1))) t 2 0 (nI (((lk_rdn (σ t) n 4 a 0).2 + 1) + 1))) t 5 0 (lk_cur (σ t) n ((lk_rdn (σ t) n 4 a 0).2 + 1) - 48)) t 2 0 (nI (((lk_rdn (σ t) n 4 a 0).2 + 1 + 1) + 1))) t 6 0 (lk_cur (σ t) n ((lk_rdn (σ t) n 4 a 0).2 + 1 + 1) - 48)) τ (t := t) (m := (m)) (ht := ht) (n := n) (a := (lk_rdn (σ t) n 4 a 0).2 + 1 + 1 + 1) (hn := by simp [lk_up, hn]) (hn60 := hn60) (ha := by simp [lk_up]) (ha64 := by omega) (h := by rw [lk_cur_c (P' := σ t) (by funext i; simp [lk_up])]; exact h3.1) (h2 := by rw [lk_cur_c (P' := σ t) (by funext i; simp [lk_up])]; exact h3.2)) ?_
            refine lk_k3 ?_
            refine lk_cast (pc' := 72) (S' := [lk_vi (lk_cur ((lk_up (lk_up (lk_up (lk_up (lk_up (lk_up (lk_up (lk_up σ t 2 0 (nI (lk_rdn (σ t) n 4 a 0).2)) t 3 0 ((lk_rdn (σ t) n 4 a 0).1)) t 4 0 1) t 2 0 (nI (((lk_rdn (σ t) n 4 a 0).2) + 1))) t 2 0 (nI (((lk_rdn (σ t) n 4 a 0).2 + 1) + 1))) t 5 0 (lk_cur (σ t) n ((lk_rdn (σ t) n 4 a 0).2 + 1) - 48)) t 2 0 (nI (((lk_rdn (σ t) n 4 a 0).2 + 1 + 1) + 1))) t 6 0 (lk_cur (σ t) n ((lk_rdn (σ t) n 4 a 0).2 + 1 + 1) - 48)) t) n ((lk_rdn (σ t) n 4 a 0).2 + 1 + 1 + 1) - 48), lk_vr t 0]) rfl rfl rfl ?_
            refine lk_eqtop (y := (lk_cur (σ t) n ((lk_rdn (σ t) n 4 a 0).2 + 1 + 1 + 1) - 48)) (by rw [lk_cur_c (P' := σ t) (by funext i; simp [lk_up])]) ?_
            refine lk_putI (f := 7) dX6_readBoat_72 ht fX6_41 (by decide) (by decide) ?_
            refine lk_aload_n dX6_readBoat_75 rfl rfl ?_
            refine lk_getI (f := 7) dX6_readBoat_76 ht fX6_41 (by decide) (by decide) ?_
            refine lk_if_lt (tgt := 86) dX6_readBoat_79 (by decide) (fun hh11 => absurd hh11 (show ¬ (lk_up (lk_up (lk_up (lk_up (lk_up (lk_up (lk_up (lk_up (lk_up (lk_up σ t 2 0 (nI (lk_rdn (σ t) n 4 a 0).2)) t 3 0 ((lk_rdn (σ t) n 4 a 0).1)) t 4 0 1) t 2 0 (nI (((lk_rdn (σ t) n 4 a 0).2) + 1))) t 2 0 (nI (((lk_rdn (σ t) n 4 a 0).2 + 1) + 1))) t 5 0 (lk_cur (σ t) n ((lk_rdn (σ t) n 4 a 0).2 + 1) - 48)) t 2 0 (nI (((lk_rdn (σ t) n 4 a 0).2 + 1 + 1) + 1))) t 6 0 (lk_cur (σ t) n ((lk_rdn (σ t) n 4 a 0).2 + 1 + 1) - 48)) t 2 0 (nI (((lk_rdn (σ t) n 4 a 0).2 + 1 + 1 + 1) + 1))) t 7 0 (lk_cur (σ t) n ((lk_rdn (σ t) n 4 a 0).2 + 1 + 1 + 1) - 48)) t 7 0 < 0 by rw [show (lk_up (lk_up (lk_up (lk_up (lk_up (lk_up (lk_up (lk_up (lk_up (lk_up σ t 2 0 (nI (lk_rdn (σ t) n 4 a 0).2)) t 3 0 ((lk_rdn (σ t) n 4 a 0).1)) t 4 0 1) t 2 0 (nI (((lk_rdn (σ t) n 4 a 0).2) + 1))) t 2 0 (nI (((lk_rdn (σ t) n 4 a 0).2 + 1) + 1))) t 5 0 (lk_cur (σ t) n ((lk_rdn (σ t) n 4 a 0).2 + 1) - 48)) t 2 0 (nI (((lk_rdn (σ t) n 4 a 0).2 + 1 + 1) + 1))) t 6 0 (lk_cur (σ t) n ((lk_rdn (σ t) n 4 a 0).2 + 1 + 1) - 48)) t 2 0 (nI (((lk_rdn (σ t) n 4 a 0).2 + 1 + 1 + 1) + 1))) t 7 0 (lk_cur (σ t) n ((lk_rdn (σ t) n 4 a 0).2 + 1 + 1 + 1) - 48)) t 7 0 = lk_cur (σ t) n ((lk_rdn (σ t) n 4 a 0).2 + 1 + 1 + 1) - 48 by simp [lk_up]]; exact h3.1)) (fun hh11 => ?_)
            refine lk_iconst (v := 1) dX6_readBoat_82 (by decide) ?_
            refine lk_goto (tgt := 87) dX6_readBoat_83 (by decide) ?_
            refine lk_iret .boolean dX6_readBoat_87 rfl rfl ?_
            rw [hQ]
            first
              | (exfalso; simp_all; done)
              | (refine lk_exso ?_ rfl ?_ ?_
                 · simp [lk_rdb, *]
                 · intro o ho; funext f i; simp [lk_up, ho]
                 · refine ⟨by funext i; simp [lk_up], by funext i; simp [lk_up], by simp [lk_up, lk_rdb, *], ?_⟩
                   first
                     | (intro hz; exfalso; simp [lk_rdb, *] at hz; done)
                     | (intro _
                        refine ⟨by simp [lk_up], funext fun f => ?_⟩
                        rcases (show f = 0 ∨ f = 1 ∨ f = 2 ∨ f = 3 ∨ (¬ f = 0 ∧ ¬ f = 1 ∧ ¬ f = 2 ∧ ¬ f = 3) by omega) with rfl | rfl | rfl | rfl | hf <;> simp [lk_up, lk_trow, lk_rdw, *]))
    ·
      refine lk_callV (o := t) (as := []) (S := []) dX6_readBoat_16 rfl vX6_readWay rfl lX6_27 ht rfl (Nat.le_of_ble_eq_true rfl) (tX6_readWay_m l X d (lk_up (lk_up σ t 2 0 (nI (lk_rdn (σ t) n 4 a 0).2)) t 3 0 ((lk_rdn (σ t) n 4 a 0).1)) τ (t := t) (ht := ht) (n := n) (a := (lk_rdn (σ t) n 4 a 0).2) (hn := by simp [lk_up, hn]) (hn60 := hn60) (ha := by simp [lk_up]) (ha64 := by omega) (h := (by rw [lk_cur_c (P' := σ t) (by funext i; simp [lk_up])]; exact h0))) ?_
      refine lk_k3 ?_
      refine lk_cast (pc' := 19) (S' := [lk_vi 1]) rfl rfl rfl ?_
      refine lk_if_ne (tgt := 24) dX6_readBoat_19 (by decide) (fun hh12 => ?_) (fun hh12 => absurd hh12 (by decide))
      refine lk_aload_n dX6_readBoat_24 rfl rfl ?_
      refine lk_aload_n dX6_readBoat_25 rfl rfl ?_
      refine lk_bipush (v := 9) dX6_readBoat_26 (by decide) ?_
      rcases hb1 : lk_fgo (σ t) n ((lk_rdn (σ t) n 4 a 0).2 + 1) 9 with _ | _
      ·
        have h1 : lk_cur (σ t) n ((lk_rdn (σ t) n 4 a 0).2 + 1) - 48 < 0 ∨ ¬ lk_cur (σ t) n ((lk_rdn (σ t) n 4 a 0).2 + 1) - 48 ≤ 9 := by simp only [lk_fgo] at hb1; grind
        refine lk_callV (o := t) (as := [lk_vi 9]) (S := [lk_vr t 0]) dX6_readBoat_28 rfl vX6_readFigure rfl lX6_31 ht rfl (Nat.le_of_ble_eq_true rfl) (tX6_readFigure_no l X d (lk_up (lk_up (lk_up (lk_up σ t 2 0 (nI (lk_rdn (σ t) n 4 a 0).2)) t 3 0 ((lk_rdn (σ t) n 4 a 0).1)) t 4 0 0) t 2 0 (nI (((lk_rdn (σ t) n 4 a 0).2) + 1))) τ (t := t) (m := 9) (ht := ht) (n := n) (a := (lk_rdn (σ t) n 4 a 0).2 + 1) (hn := by simp [lk_up, hn]) (hn60 := hn60) (ha := by simp [lk_up]) (ha64 := by omega) (h := (by rw [lk_cur_c (P' := σ t) (by funext i; simp [lk_up])]; exact h1))) ?_
        refine lk_k3 ?_
        refine lk_cast (pc' := 31) (S' := [lk_vi (-1), lk_vr t 0]) rfl rfl rfl ?_
        refine lk_putI (f := 5) dX6_readBoat_31 ht fX6_35 (by decide) (by decide) ?_
        refine lk_aload_n dX6_readBoat_34 rfl rfl ?_
        refine lk_aload_n dX6_readBoat_35 rfl rfl ?_
        refine lk_getI (f := 5) dX6_readBoat_36 ht fX6_35 (by decide) (by decide) ?_
        refine lk_if_ge (tgt := 46) dX6_readBoat_39 (by decide) (fun hh13 => absurd hh13 (show ¬ (0 : Int32) ≤ (lk_up (lk_up (lk_up (lk_up (lk_up σ t 2 0 (nI (lk_rdn (σ t) n 4 a 0).2)) t 3 0 ((lk_rdn (σ t) n 4 a 0).1)) t 4 0 0) t 2 0 (nI (((lk_rdn (σ t) n 4 a 0).2) + 1))) t 5 0 (-1)) t 5 0 by rw [show (lk_up (lk_up (lk_up (lk_up (lk_up σ t 2 0 (nI (lk_rdn (σ t) n 4 a 0).2)) t 3 0 ((lk_rdn (σ t) n 4 a 0).1)) t 4 0 0) t 2 0 (nI (((lk_rdn (σ t) n 4 a 0).2) + 1))) t 5 0 (-1)) t 5 0 = -1 by simp [lk_up]]; decide)) (fun hh13 => ?_)
        refine lk_iconst (v := (-1)) dX6_readBoat_42 (by decide) ?_
        refine lk_goto (tgt := 52) dX6_readBoat_43 (by decide) ?_
        refine lk_putI (f := 6) dX6_readBoat_52 ht fX6_38 (by decide) (by decide) ?_
        refine lk_aload_n dX6_readBoat_55 rfl rfl ?_
        refine lk_aload_n dX6_readBoat_56 rfl rfl ?_
        refine lk_getI (f := 6) dX6_readBoat_57 ht fX6_38 (by decide) (by decide) ?_
        refine lk_if_ge (tgt := 67) dX6_readBoat_60 (by decide) (fun hh14 => absurd hh14 (show ¬ (0 : Int32) ≤ (lk_up (lk_up (lk_up (lk_up (lk_up (lk_up σ t 2 0 (nI (lk_rdn (σ t) n 4 a 0).2)) t 3 0 ((lk_rdn (σ t) n 4 a 0).1)) t 4 0 0) t 2 0 (nI (((lk_rdn (σ t) n 4 a 0).2) + 1))) t 5 0 (-1)) t 6 0 (-1)) t 6 0 by rw [show (lk_up (lk_up (lk_up (lk_up (lk_up (lk_up σ t 2 0 (nI (lk_rdn (σ t) n 4 a 0).2)) t 3 0 ((lk_rdn (σ t) n 4 a 0).1)) t 4 0 0) t 2 0 (nI (((lk_rdn (σ t) n 4 a 0).2) + 1))) t 5 0 (-1)) t 6 0 (-1)) t 6 0 = -1 by simp [lk_up]]; decide)) (fun hh14 => ?_)
        refine lk_iconst (v := (-1)) dX6_readBoat_63 (by decide) ?_
        refine lk_goto (tgt := 72) dX6_readBoat_64 (by decide) ?_
        refine lk_putI (f := 7) dX6_readBoat_72 ht fX6_41 (by decide) (by decide) ?_
        refine lk_aload_n dX6_readBoat_75 rfl rfl ?_
        refine lk_getI (f := 7) dX6_readBoat_76 ht fX6_41 (by decide) (by decide) ?_
        refine lk_if_lt (tgt := 86) dX6_readBoat_79 (by decide) (fun hh15 => ?_) (fun hh15 => absurd hh15 (fun z => z (show (lk_up (lk_up (lk_up (lk_up (lk_up (lk_up (lk_up σ t 2 0 (nI (lk_rdn (σ t) n 4 a 0).2)) t 3 0 ((lk_rdn (σ t) n 4 a 0).1)) t 4 0 0) t 2 0 (nI (((lk_rdn (σ t) n 4 a 0).2) + 1))) t 5 0 (-1)) t 6 0 (-1)) t 7 0 (-1)) t 7 0 < 0 by rw [show (lk_up (lk_up (lk_up (lk_up (lk_up (lk_up (lk_up σ t 2 0 (nI (lk_rdn (σ t) n 4 a 0).2)) t 3 0 ((lk_rdn (σ t) n 4 a 0).1)) t 4 0 0) t 2 0 (nI (((lk_rdn (σ t) n 4 a 0).2) + 1))) t 5 0 (-1)) t 6 0 (-1)) t 7 0 (-1)) t 7 0 = -1 by simp [lk_up]]; decide)))
        refine lk_iconst (v := 0) dX6_readBoat_86 (by decide) ?_
        refine lk_iret .boolean dX6_readBoat_87 rfl rfl ?_
        rw [hQ]
        first
          | (exfalso; simp_all; done)
          | (refine lk_exso ?_ rfl ?_ ?_
             · simp [lk_rdb, *]
             · intro o ho; funext f i; simp [lk_up, ho]
             · refine ⟨by funext i; simp [lk_up], by funext i; simp [lk_up], by simp [lk_up, lk_rdb, *], ?_⟩
               first
                 | (intro hz; exfalso; simp [lk_rdb, *] at hz; done)
                 | (intro _
                    refine ⟨by simp [lk_up], funext fun f => ?_⟩
                    rcases (show f = 0 ∨ f = 1 ∨ f = 2 ∨ f = 3 ∨ (¬ f = 0 ∧ ¬ f = 1 ∧ ¬ f = 2 ∧ ¬ f = 3) by omega) with rfl | rfl | rfl | rfl | hf <;> simp [lk_up, lk_trow, lk_rdw, *]))
      ·
        have h1 : ¬ lk_cur (σ t) n ((lk_rdn (σ t) n 4 a 0).2 + 1) - 48 < 0 ∧ lk_cur (σ t) n ((lk_rdn (σ t) n 4 a 0).2 + 1) - 48 ≤ 9 := by simp only [lk_fgo] at hb1; grind
        refine lk_callV (o := t) (as := [lk_vi 9]) (S := [lk_vr t 0]) dX6_readBoat_28 rfl vX6_readFigure rfl lX6_31 ht rfl (Nat.le_of_ble_eq_true rfl) (tX6_readFigure_ok l X d (lk_up (lk_up (lk_up (lk_up σ t 2 0 (nI (lk_rdn (σ t) n 4 a 0).2)) t 3 0 ((lk_rdn (σ t) n 4 a 0).1)) t 4 0 0) t 2 0 (nI (((lk_rdn (σ t) n 4 a 0).2) + 1))) τ (t := t) (m := 9) (ht := ht) (n := n) (a := (lk_rdn (σ t) n 4 a 0).2 + 1) (hn := by simp [lk_up, hn]) (hn60 := hn60) (ha := by simp [lk_up]) (ha64 := by omega) (h := by rw [lk_cur_c (P' := σ t) (by funext i; simp [lk_up])]; exact h1.1) (h2 := by rw [lk_cur_c (P' := σ t) (by funext i; simp [lk_up])]; exact h1.2)) ?_
        refine lk_k3 ?_
        refine lk_cast (pc' := 31) (S' := [lk_vi (lk_cur ((lk_up (lk_up (lk_up (lk_up σ t 2 0 (nI (lk_rdn (σ t) n 4 a 0).2)) t 3 0 ((lk_rdn (σ t) n 4 a 0).1)) t 4 0 0) t 2 0 (nI (((lk_rdn (σ t) n 4 a 0).2) + 1))) t) n ((lk_rdn (σ t) n 4 a 0).2 + 1) - 48), lk_vr t 0]) rfl rfl rfl ?_
        refine lk_eqtop (y := (lk_cur (σ t) n ((lk_rdn (σ t) n 4 a 0).2 + 1) - 48)) (by rw [lk_cur_c (P' := σ t) (by funext i; simp [lk_up])]) ?_
        refine lk_putI (f := 5) dX6_readBoat_31 ht fX6_35 (by decide) (by decide) ?_
        refine lk_aload_n dX6_readBoat_34 rfl rfl ?_
        refine lk_aload_n dX6_readBoat_35 rfl rfl ?_
        refine lk_getI (f := 5) dX6_readBoat_36 ht fX6_35 (by decide) (by decide) ?_
        refine lk_if_ge (tgt := 46) dX6_readBoat_39 (by decide) (fun hh16 => ?_) (fun hh16 => absurd hh16 (fun z => z (show (0 : Int32) ≤ (lk_up (lk_up (lk_up (lk_up (lk_up (lk_up σ t 2 0 (nI (lk_rdn (σ t) n 4 a 0).2)) t 3 0 ((lk_rdn (σ t) n 4 a 0).1)) t 4 0 0) t 2 0 (nI (((lk_rdn (σ t) n 4 a 0).2) + 1))) t 2 0 (nI (((lk_rdn (σ t) n 4 a 0).2 + 1) + 1))) t 5 0 (lk_cur (σ t) n ((lk_rdn (σ t) n 4 a 0).2 + 1) - 48)) t 5 0 by rw [show (lk_up (lk_up (lk_up (lk_up (lk_up (lk_up σ t 2 0 (nI (lk_rdn (σ t) n 4 a 0).2)) t 3 0 ((lk_rdn (σ t) n 4 a 0).1)) t 4 0 0) t 2 0 (nI (((lk_rdn (σ t) n 4 a 0).2) + 1))) t 2 0 (nI (((lk_rdn (σ t) n 4 a 0).2 + 1) + 1))) t 5 0 (lk_cur (σ t) n ((lk_rdn (σ t) n 4 a 0).2 + 1) - 48)) t 5 0 = lk_cur (σ t) n ((lk_rdn (σ t) n 4 a 0).2 + 1) - 48 by simp [lk_up]]; exact Int32.not_lt.mp h1.1)))
        refine lk_aload_n dX6_readBoat_46 rfl rfl ?_
        refine lk_bipush (v := 9) dX6_readBoat_47 (by decide) ?_
        rcases hb2 : lk_fgo (σ t) n ((lk_rdn (σ t) n 4 a 0).2 + 1 + 1) 9 with _ | _
        ·
          have h2 : lk_cur (σ t) n ((lk_rdn (σ t) n 4 a 0).2 + 1 + 1) - 48 < 0 ∨ ¬ lk_cur (σ t) n ((lk_rdn (σ t) n 4 a 0).2 + 1 + 1) - 48 ≤ 9 := by simp only [lk_fgo] at hb2; grind
          refine lk_callV (o := t) (as := [lk_vi 9]) (S := [lk_vr t 0]) dX6_readBoat_49 rfl vX6_readFigure rfl lX6_31 ht rfl (Nat.le_of_ble_eq_true rfl) (tX6_readFigure_no l X d (lk_up (lk_up (lk_up (lk_up (lk_up (lk_up σ t 2 0 (nI (lk_rdn (σ t) n 4 a 0).2)) t 3 0 ((lk_rdn (σ t) n 4 a 0).1)) t 4 0 0) t 2 0 (nI (((lk_rdn (σ t) n 4 a 0).2) + 1))) t 2 0 (nI (((lk_rdn (σ t) n 4 a 0).2 + 1) + 1))) t 5 0 (lk_cur (σ t) n ((lk_rdn (σ t) n 4 a 0).2 + 1) - 48)) τ (t := t) (m := 9) (ht := ht) (n := n) (a := (lk_rdn (σ t) n 4 a 0).2 + 1 + 1) (hn := by simp [lk_up, hn]) (hn60 := hn60) (ha := by simp [lk_up]) (ha64 := by omega) (h := (by rw [lk_cur_c (P' := σ t) (by funext i; simp [lk_up])]; exact h2))) ?_
          refine lk_k3 ?_
          refine lk_cast (pc' := 52) (S' := [lk_vi (-1), lk_vr t 0]) rfl rfl rfl ?_
          refine lk_putI (f := 6) dX6_readBoat_52 ht fX6_38 (by decide) (by decide) ?_
          refine lk_aload_n dX6_readBoat_55 rfl rfl ?_
          refine lk_aload_n dX6_readBoat_56 rfl rfl ?_
          refine lk_getI (f := 6) dX6_readBoat_57 ht fX6_38 (by decide) (by decide) ?_
          refine lk_if_ge (tgt := 67) dX6_readBoat_60 (by decide) (fun hh17 => absurd hh17 (show ¬ (0 : Int32) ≤ (lk_up (lk_up (lk_up (lk_up (lk_up (lk_up (lk_up σ t 2 0 (nI (lk_rdn (σ t) n 4 a 0).2)) t 3 0 ((lk_rdn (σ t) n 4 a 0).1)) t 4 0 0) t 2 0 (nI (((lk_rdn (σ t) n 4 a 0).2) + 1))) t 2 0 (nI (((lk_rdn (σ t) n 4 a 0).2 + 1) + 1))) t 5 0 (lk_cur (σ t) n ((lk_rdn (σ t) n 4 a 0).2 + 1) - 48)) t 6 0 (-1)) t 6 0 by rw [show (lk_up (lk_up (lk_up (lk_up (lk_up (lk_up (lk_up σ t 2 0 (nI (lk_rdn (σ t) n 4 a 0).2)) t 3 0 ((lk_rdn (σ t) n 4 a 0).1)) t 4 0 0) t 2 0 (nI (((lk_rdn (σ t) n 4 a 0).2) + 1))) t 2 0 (nI (((lk_rdn (σ t) n 4 a 0).2 + 1) + 1))) t 5 0 (lk_cur (σ t) n ((lk_rdn (σ t) n 4 a 0).2 + 1) - 48)) t 6 0 (-1)) t 6 0 = -1 by simp [lk_up]]; decide)) (fun hh17 => ?_)
          refine lk_iconst (v := (-1)) dX6_readBoat_63 (by decide) ?_
          refine lk_goto (tgt := 72) dX6_readBoat_64 (by decide) ?_
          refine lk_putI (f := 7) dX6_readBoat_72 ht fX6_41 (by decide) (by decide) ?_
          refine lk_aload_n dX6_readBoat_75 rfl rfl ?_
          refine lk_getI (f := 7) dX6_readBoat_76 ht fX6_41 (by decide) (by decide) ?_
          refine lk_if_lt (tgt := 86) dX6_readBoat_79 (by decide) (fun hh18 => ?_) (fun hh18 => absurd hh18 (fun z => z (show (lk_up (lk_up (lk_up (lk_up (lk_up (lk_up (lk_up (lk_up σ t 2 0 (nI (lk_rdn (σ t) n 4 a 0).2)) t 3 0 ((lk_rdn (σ t) n 4 a 0).1)) t 4 0 0) t 2 0 (nI (((lk_rdn (σ t) n 4 a 0).2) + 1))) t 2 0 (nI (((lk_rdn (σ t) n 4 a 0).2 + 1) + 1))) t 5 0 (lk_cur (σ t) n ((lk_rdn (σ t) n 4 a 0).2 + 1) - 48)) t 6 0 (-1)) t 7 0 (-1)) t 7 0 < 0 by rw [show (lk_up (lk_up (lk_up (lk_up (lk_up (lk_up (lk_up (lk_up σ t 2 0 (nI (lk_rdn (σ t) n 4 a 0).2)) t 3 0 ((lk_rdn (σ t) n 4 a 0).1)) t 4 0 0) t 2 0 (nI (((lk_rdn (σ t) n 4 a 0).2) + 1))) t 2 0 (nI (((lk_rdn (σ t) n 4 a 0).2 + 1) + 1))) t 5 0 (lk_cur (σ t) n ((lk_rdn (σ t) n 4 a 0).2 + 1) - 48)) t 6 0 (-1)) t 7 0 (-1)) t 7 0 = -1 by simp [lk_up]]; decide)))
          refine lk_iconst (v := 0) dX6_readBoat_86 (by decide) ?_
          refine lk_iret .boolean dX6_readBoat_87 rfl rfl ?_
          rw [hQ]
          first
            | (exfalso; simp_all; done)
            | (refine lk_exso ?_ rfl ?_ ?_
               · simp [lk_rdb, *]
               · intro o ho; funext f i; simp [lk_up, ho]
               · refine ⟨by funext i; simp [lk_up], by funext i; simp [lk_up], by simp [lk_up, lk_rdb, *], ?_⟩
                 first
                   | (intro hz; exfalso; simp [lk_rdb, *] at hz; done)
                   | (intro _
                      refine ⟨by simp [lk_up], funext fun f => ?_⟩
                      rcases (show f = 0 ∨ f = 1 ∨ f = 2 ∨ f = 3 ∨ (¬ f = 0 ∧ ¬ f = 1 ∧ ¬ f = 2 ∧ ¬ f = 3) by omega) with rfl | rfl | rfl | rfl | hf <;> simp [lk_up, lk_trow, lk_rdw, *]))
        ·
          have h2 : ¬ lk_cur (σ t) n ((lk_rdn (σ t) n 4 a 0).2 + 1 + 1) - 48 < 0 ∧ lk_cur (σ t) n ((lk_rdn (σ t) n 4 a 0).2 + 1 + 1) - 48 ≤ 9 := by simp only [lk_fgo] at hb2; grind
          refine lk_callV (o := t) (as := [lk_vi 9]) (S := [lk_vr t 0]) dX6_readBoat_49 rfl vX6_readFigure rfl lX6_31 ht rfl (Nat.le_of_ble_eq_true rfl) (tX6_readFigure_ok l X d (lk_up (lk_up (lk_up (lk_up (lk_up (lk_up σ t 2 0 (nI (lk_rdn (σ t) n 4 a 0).2)) t 3 0 ((lk_rdn (σ t) n 4 a 0).1)) t 4 0 0) t 2 0 (nI (((lk_rdn (σ t) n 4 a 0).2) + 1))) t 2 0 (nI (((lk_rdn (σ t) n 4 a 0).2 + 1) + 1))) t 5 0 (lk_cur (σ t) n ((lk_rdn (σ t) n 4 a 0).2 + 1) - 48)) τ (t := t) (m := 9) (ht := ht) (n := n) (a := (lk_rdn (σ t) n 4 a 0).2 + 1 + 1) (hn := by simp [lk_up, hn]) (hn60 := hn60) (ha := by simp [lk_up]) (ha64 := by omega) (h := by rw [lk_cur_c (P' := σ t) (by funext i; simp [lk_up])]; exact h2.1) (h2 := by rw [lk_cur_c (P' := σ t) (by funext i; simp [lk_up])]; exact h2.2)) ?_
          refine lk_k3 ?_
          refine lk_cast (pc' := 52) (S' := [lk_vi (lk_cur ((lk_up (lk_up (lk_up (lk_up (lk_up (lk_up σ t 2 0 (nI (lk_rdn (σ t) n 4 a 0).2)) t 3 0 ((lk_rdn (σ t) n 4 a 0).1)) t 4 0 0) t 2 0 (nI (((lk_rdn (σ t) n 4 a 0).2) + 1))) t 2 0 (nI (((lk_rdn (σ t) n 4 a 0).2 + 1) + 1))) t 5 0 (lk_cur (σ t) n ((lk_rdn (σ t) n 4 a 0).2 + 1) - 48)) t) n ((lk_rdn (σ t) n 4 a 0).2 + 1 + 1) - 48), lk_vr t 0]) rfl rfl rfl ?_
          refine lk_eqtop (y := (lk_cur (σ t) n ((lk_rdn (σ t) n 4 a 0).2 + 1 + 1) - 48)) (by rw [lk_cur_c (P' := σ t) (by funext i; simp [lk_up])]) ?_
          refine lk_putI (f := 6) dX6_readBoat_52 ht fX6_38 (by decide) (by decide) ?_
          refine lk_aload_n dX6_readBoat_55 rfl rfl ?_
          refine lk_aload_n dX6_readBoat_56 rfl rfl ?_
          refine lk_getI (f := 6) dX6_readBoat_57 ht fX6_38 (by decide) (by decide) ?_
          refine lk_if_ge (tgt := 67) dX6_readBoat_60 (by decide) (fun hh19 => ?_) (fun hh19 => absurd hh19 (fun z => z (show (0 : Int32) ≤ (lk_up (lk_up (lk_up (lk_up (lk_up (lk_up (lk_up (lk_up σ t 2 0 (nI (lk_rdn (σ t) n 4 a 0).2)) t 3 0 ((lk_rdn (σ t) n 4 a 0).1)) t 4 0 0) t 2 0 (nI (((lk_rdn (σ t) n 4 a 0).2) + 1))) t 2 0 (nI (((lk_rdn (σ t) n 4 a 0).2 + 1) + 1))) t 5 0 (lk_cur (σ t) n ((lk_rdn (σ t) n 4 a 0).2 + 1) - 48)) t 2 0 (nI (((lk_rdn (σ t) n 4 a 0).2 + 1 + 1) + 1))) t 6 0 (lk_cur (σ t) n ((lk_rdn (σ t) n 4 a 0).2 + 1 + 1) - 48)) t 6 0 by rw [show (lk_up (lk_up (lk_up (lk_up (lk_up (lk_up (lk_up (lk_up σ t 2 0 (nI (lk_rdn (σ t) n 4 a 0).2)) t 3 0 ((lk_rdn (σ t) n 4 a 0).1)) t 4 0 0) t 2 0 (nI (((lk_rdn (σ t) n 4 a 0).2) + 1))) t 2 0 (nI (((lk_rdn (σ t) n 4 a 0).2 + 1) + 1))) t 5 0 (lk_cur (σ t) n ((lk_rdn (σ t) n 4 a 0).2 + 1) - 48)) t 2 0 (nI (((lk_rdn (σ t) n 4 a 0).2 + 1 + 1) + 1))) t 6 0 (lk_cur (σ t) n ((lk_rdn (σ t) n 4 a 0).2 + 1 + 1) - 48)) t 6 0 = lk_cur (σ t) n ((lk_rdn (σ t) n 4 a 0).2 + 1 + 1) - 48 by simp [lk_up]]; exact Int32.not_lt.mp h2.1)))
          refine lk_aload_n dX6_readBoat_67 rfl rfl ?_
          refine lk_iload_n dX6_readBoat_68 rfl rfl ?_
          rcases hb3 : lk_fgo (σ t) n ((lk_rdn (σ t) n 4 a 0).2 + 1 + 1 + 1) m with _ | _
          ·
            have h3 : lk_cur (σ t) n ((lk_rdn (σ t) n 4 a 0).2 + 1 + 1 + 1) - 48 < 0 ∨ ¬ lk_cur (σ t) n ((lk_rdn (σ t) n 4 a 0).2 + 1 + 1 + 1) - 48 ≤ m := by simp only [lk_fgo] at hb3; grind
            refine lk_callV (o := t) (as := [lk_vi (m)]) (S := [lk_vr t 0]) dX6_readBoat_69 rfl vX6_readFigure rfl lX6_31 ht rfl (Nat.le_of_ble_eq_true rfl) (tX6_readFigure_no l X d (lk_up (lk_up (lk_up (lk_up (lk_up (lk_up (lk_up (lk_up σ t 2 0 (nI (lk_rdn (σ t) n 4 a 0).2)) t 3 0 ((lk_rdn (σ t) n 4 a 0).1)) t 4 0 0) t 2 0 (nI (((lk_rdn (σ t) n 4 a 0).2) + 1))) t 2 0 (nI (((lk_rdn (σ t) n 4 a 0).2 + 1) + 1))) t 5 0 (lk_cur (σ t) n ((lk_rdn (σ t) n 4 a 0).2 + 1) - 48)) t 2 0 (nI (((lk_rdn (σ t) n 4 a 0).2 + 1 + 1) + 1))) t 6 0 (lk_cur (σ t) n ((lk_rdn (σ t) n 4 a 0).2 + 1 + 1) - 48)) τ (t := t) (m := (m)) (ht := ht) (n := n) (a := (lk_rdn (σ t) n 4 a 0).2 + 1 + 1 + 1) (hn := by simp [lk_up, hn]) (hn60 := hn60) (ha := by simp [lk_up]) (ha64 := by omega) (h := (by rw [lk_cur_c (P' := σ t) (by funext i; simp [lk_up])]; exact h3))) ?_
            refine lk_k3 ?_
            refine lk_cast (pc' := 72) (S' := [lk_vi (-1), lk_vr t 0]) rfl rfl rfl ?_
            refine lk_putI (f := 7) dX6_readBoat_72 ht fX6_41 (by decide) (by decide) ?_
            refine lk_aload_n dX6_readBoat_75 rfl rfl ?_
            refine lk_getI (f := 7) dX6_readBoat_76 ht fX6_41 (by decide) (by decide) ?_
            refine lk_if_lt (tgt := 86) dX6_readBoat_79 (by decide) (fun hh20 => ?_) (fun hh20 => absurd hh20 (fun z => z (show (lk_up (lk_up (lk_up (lk_up (lk_up (lk_up (lk_up (lk_up (lk_up σ t 2 0 (nI (lk_rdn (σ t) n 4 a 0).2)) t 3 0 ((lk_rdn (σ t) n 4 a 0).1)) t 4 0 0) t 2 0 (nI (((lk_rdn (σ t) n 4 a 0).2) + 1))) t 2 0 (nI (((lk_rdn (σ t) n 4 a 0).2 + 1) + 1))) t 5 0 (lk_cur (σ t) n ((lk_rdn (σ t) n 4 a 0).2 + 1) - 48)) t 2 0 (nI (((lk_rdn (σ t) n 4 a 0).2 + 1 + 1) + 1))) t 6 0 (lk_cur (σ t) n ((lk_rdn (σ t) n 4 a 0).2 + 1 + 1) - 48)) t 7 0 (-1)) t 7 0 < 0 by rw [show (lk_up (lk_up (lk_up (lk_up (lk_up (lk_up (lk_up (lk_up (lk_up σ t 2 0 (nI (lk_rdn (σ t) n 4 a 0).2)) t 3 0 ((lk_rdn (σ t) n 4 a 0).1)) t 4 0 0) t 2 0 (nI (((lk_rdn (σ t) n 4 a 0).2) + 1))) t 2 0 (nI (((lk_rdn (σ t) n 4 a 0).2 + 1) + 1))) t 5 0 (lk_cur (σ t) n ((lk_rdn (σ t) n 4 a 0).2 + 1) - 48)) t 2 0 (nI (((lk_rdn (σ t) n 4 a 0).2 + 1 + 1) + 1))) t 6 0 (lk_cur (σ t) n ((lk_rdn (σ t) n 4 a 0).2 + 1 + 1) - 48)) t 7 0 (-1)) t 7 0 = -1 by simp [lk_up]]; decide)))
            refine lk_iconst (v := 0) dX6_readBoat_86 (by decide) ?_
            refine lk_iret .boolean dX6_readBoat_87 rfl rfl ?_
            rw [hQ]
            first
              | (exfalso; simp_all; done)
              | (refine lk_exso ?_ rfl ?_ ?_
                 · simp [lk_rdb, *]
                 · intro o ho; funext f i; simp [lk_up, ho]
                 · refine ⟨by funext i; simp [lk_up], by funext i; simp [lk_up], by simp [lk_up, lk_rdb, *], ?_⟩
                   first
                     | (intro hz; exfalso; simp [lk_rdb, *] at hz; done)
                     | (intro _
                        refine ⟨by simp [lk_up], funext fun f => ?_⟩
                        rcases (show f = 0 ∨ f = 1 ∨ f = 2 ∨ f = 3 ∨ (¬ f = 0 ∧ ¬ f = 1 ∧ ¬ f = 2 ∧ ¬ f = 3) by omega) with rfl | rfl | rfl | rfl | hf <;> simp [lk_up, lk_trow, lk_rdw, *]))
          ·
            have h3 : ¬ lk_cur (σ t) n ((lk_rdn (σ t) n 4 a 0).2 + 1 + 1 + 1) - 48 < 0 ∧ lk_cur (σ t) n ((lk_rdn (σ t) n 4 a 0).2 + 1 + 1 + 1) - 48 ≤ m := by simp only [lk_fgo] at hb3; grind
            refine lk_callV (o := t) (as := [lk_vi (m)]) (S := [lk_vr t 0]) dX6_readBoat_69 rfl vX6_readFigure rfl lX6_31 ht rfl (Nat.le_of_ble_eq_true rfl) (tX6_readFigure_ok l X d (lk_up (lk_up (lk_up (lk_up (lk_up (lk_up (lk_up (lk_up σ t 2 0 (nI (lk_rdn (σ t) n 4 a 0).2)) t 3 0 ((lk_rdn (σ t) n 4 a 0).1)) t 4 0 0) t 2 0 (nI (((lk_rdn (σ t) n 4 a 0).2) + 1))) t 2 0 (nI (((lk_rdn (σ t) n 4 a 0).2 + 1) + 1))) t 5 0 (lk_cur (σ t) n ((lk_rdn (σ t) n 4 a 0).2 + 1) - 48)) t 2 0 (nI (((lk_rdn (σ t) n 4 a 0).2 + 1 + 1) + 1))) t 6 0 (lk_cur (σ t) n ((lk_rdn (σ t) n 4 a 0).2 + 1 + 1) - 48)) τ (t := t) (m := (m)) (ht := ht) (n := n) (a := (lk_rdn (σ t) n 4 a 0).2 + 1 + 1 + 1) (hn := by simp [lk_up, hn]) (hn60 := hn60) (ha := by simp [lk_up]) (ha64 := by omega) (h := by rw [lk_cur_c (P' := σ t) (by funext i; simp [lk_up])]; exact h3.1) (h2 := by rw [lk_cur_c (P' := σ t) (by funext i; simp [lk_up])]; exact h3.2)) ?_
            refine lk_k3 ?_
            refine lk_cast (pc' := 72) (S' := [lk_vi (lk_cur ((lk_up (lk_up (lk_up (lk_up (lk_up (lk_up (lk_up (lk_up σ t 2 0 (nI (lk_rdn (σ t) n 4 a 0).2)) t 3 0 ((lk_rdn (σ t) n 4 a 0).1)) t 4 0 0) t 2 0 (nI (((lk_rdn (σ t) n 4 a 0).2) + 1))) t 2 0 (nI (((lk_rdn (σ t) n 4 a 0).2 + 1) + 1))) t 5 0 (lk_cur (σ t) n ((lk_rdn (σ t) n 4 a 0).2 + 1) - 48)) t 2 0 (nI (((lk_rdn (σ t) n 4 a 0).2 + 1 + 1) + 1))) t 6 0 (lk_cur (σ t) n ((lk_rdn (σ t) n 4 a 0).2 + 1 + 1) - 48)) t) n ((lk_rdn (σ t) n 4 a 0).2 + 1 + 1 + 1) - 48), lk_vr t 0]) rfl rfl rfl ?_
            refine lk_eqtop (y := (lk_cur (σ t) n ((lk_rdn (σ t) n 4 a 0).2 + 1 + 1 + 1) - 48)) (by rw [lk_cur_c (P' := σ t) (by funext i; simp [lk_up])]) ?_
            refine lk_putI (f := 7) dX6_readBoat_72 ht fX6_41 (by decide) (by decide) ?_
            refine lk_aload_n dX6_readBoat_75 rfl rfl ?_
            refine lk_getI (f := 7) dX6_readBoat_76 ht fX6_41 (by decide) (by decide) ?_
            refine lk_if_lt (tgt := 86) dX6_readBoat_79 (by decide) (fun hh21 => absurd hh21 (show ¬ (lk_up (lk_up (lk_up (lk_up (lk_up (lk_up (lk_up (lk_up (lk_up (lk_up σ t 2 0 (nI (lk_rdn (σ t) n 4 a 0).2)) t 3 0 ((lk_rdn (σ t) n 4 a 0).1)) t 4 0 0) t 2 0 (nI (((lk_rdn (σ t) n 4 a 0).2) + 1))) t 2 0 (nI (((lk_rdn (σ t) n 4 a 0).2 + 1) + 1))) t 5 0 (lk_cur (σ t) n ((lk_rdn (σ t) n 4 a 0).2 + 1) - 48)) t 2 0 (nI (((lk_rdn (σ t) n 4 a 0).2 + 1 + 1) + 1))) t 6 0 (lk_cur (σ t) n ((lk_rdn (σ t) n 4 a 0).2 + 1 + 1) - 48)) t 2 0 (nI (((lk_rdn (σ t) n 4 a 0).2 + 1 + 1 + 1) + 1))) t 7 0 (lk_cur (σ t) n ((lk_rdn (σ t) n 4 a 0).2 + 1 + 1 + 1) - 48)) t 7 0 < 0 by rw [show (lk_up (lk_up (lk_up (lk_up (lk_up (lk_up (lk_up (lk_up (lk_up (lk_up σ t 2 0 (nI (lk_rdn (σ t) n 4 a 0).2)) t 3 0 ((lk_rdn (σ t) n 4 a 0).1)) t 4 0 0) t 2 0 (nI (((lk_rdn (σ t) n 4 a 0).2) + 1))) t 2 0 (nI (((lk_rdn (σ t) n 4 a 0).2 + 1) + 1))) t 5 0 (lk_cur (σ t) n ((lk_rdn (σ t) n 4 a 0).2 + 1) - 48)) t 2 0 (nI (((lk_rdn (σ t) n 4 a 0).2 + 1 + 1) + 1))) t 6 0 (lk_cur (σ t) n ((lk_rdn (σ t) n 4 a 0).2 + 1 + 1) - 48)) t 2 0 (nI (((lk_rdn (σ t) n 4 a 0).2 + 1 + 1 + 1) + 1))) t 7 0 (lk_cur (σ t) n ((lk_rdn (σ t) n 4 a 0).2 + 1 + 1 + 1) - 48)) t 7 0 = lk_cur (σ t) n ((lk_rdn (σ t) n 4 a 0).2 + 1 + 1 + 1) - 48 by simp [lk_up]]; exact h3.1)) (fun hh21 => ?_)
            refine lk_iconst (v := 1) dX6_readBoat_82 (by decide) ?_
            refine lk_goto (tgt := 87) dX6_readBoat_83 (by decide) ?_
            refine lk_iret .boolean dX6_readBoat_87 rfl rfl ?_
            rw [hQ]
            first
              | (exfalso; simp_all; done)
              | (refine lk_exso ?_ rfl ?_ ?_
                 · simp [lk_rdb, *]
                 · intro o ho; funext f i; simp [lk_up, ho]
                 · refine ⟨by funext i; simp [lk_up], by funext i; simp [lk_up], by simp [lk_up, lk_rdb, *], ?_⟩
                   first
                     | (intro hz; exfalso; simp [lk_rdb, *] at hz; done)
                     | (intro _
                        refine ⟨by simp [lk_up], funext fun f => ?_⟩
                        rcases (show f = 0 ∨ f = 1 ∨ f = 2 ∨ f = 3 ∨ (¬ f = 0 ∧ ¬ f = 1 ∧ ¬ f = 2 ∧ ¬ f = 3) by omega) with rfl | rfl | rfl | rfl | hf <;> simp [lk_up, lk_trow, lk_rdw, *]))
    ·
      refine lk_callV (o := t) (as := []) (S := []) dX6_readBoat_16 rfl vX6_readWay rfl lX6_27 ht rfl (Nat.le_of_ble_eq_true rfl) (tX6_readWay_no l X d (lk_up (lk_up σ t 2 0 (nI (lk_rdn (σ t) n 4 a 0).2)) t 3 0 ((lk_rdn (σ t) n 4 a 0).1)) τ (t := t) (ht := ht) (n := n) (a := (lk_rdn (σ t) n 4 a 0).2) (hn := by simp [lk_up, hn]) (hn60 := hn60) (ha := by simp [lk_up]) (ha64 := by omega) (h := by rw [lk_cur_c (P' := σ t) (by funext i; simp [lk_up])]; exact h0.1) (h2 := by rw [lk_cur_c (P' := σ t) (by funext i; simp [lk_up])]; exact h0.2)) ?_
      refine lk_k3 ?_
      refine lk_cast (pc' := 19) (S' := [lk_vi 0]) rfl rfl rfl ?_
      refine lk_if_ne (tgt := 24) dX6_readBoat_19 (by decide) (fun hh22 => absurd hh22 (by decide)) (fun hh22 => ?_)
      refine lk_iconst (v := 0) dX6_readBoat_22 (by decide) ?_
      refine lk_iret .boolean dX6_readBoat_23 rfl rfl ?_
      rw [hQ]
      first
        | (exfalso; simp_all; done)
        | (refine lk_exso ?_ rfl ?_ ?_
           · simp [lk_rdb, *]
           · intro o ho; funext f i; simp [lk_up, ho]
           · refine ⟨by funext i; simp [lk_up], by funext i; simp [lk_up], by simp [lk_up, lk_rdb, *], ?_⟩
             first
               | (intro hz; exfalso; simp [lk_rdb, *] at hz; done)
               | (intro _
                  refine ⟨by simp [lk_up], funext fun f => ?_⟩
                  rcases (show f = 0 ∨ f = 1 ∨ f = 2 ∨ f = 3 ∨ (¬ f = 0 ∧ ¬ f = 1 ∧ ¬ f = 2 ∧ ¬ f = 3) by omega) with rfl | rfl | rfl | rfl | hf <;> simp [lk_up, lk_trow, lk_rdw, *]))
