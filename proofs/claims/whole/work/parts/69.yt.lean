/-- the boats' numbers put into the model's -/
def lk_mbw (B : lk_O) (N : Nat → Int32) : Nat → Int32 := fun i => if 54 ≤ i ∧ i < 114 then B ((i - 54) / 12) ((i - 54) % 12) else if i = 114 then B 5 0 else N i
def lk_mb (σ : lk_N) (B : lk_O) : lk_N := lk_sw σ 1 0 (lk_mbw B (σ 1 0))
section MB
variable {σ : lk_N} {B : lk_O} {i j o f : Nat} {v : Int32}
theorem lk_mb_r (i : Nat) : lk_mb σ B 1 0 i = lk_mbw B (σ 1 0) i := by simp [lk_mb, lk_sw]
theorem lk_mb_mb (B' : lk_O) : lk_mb (lk_mb σ B) B' = lk_mb σ B' := by
  funext a b j
  simp only [lk_mb, lk_sw, lk_mbw]
  grind (splits := 40)
theorem lk_bn (h : ¬ (o = 1 ∧ f = 0)) : lk_mb σ B o f i = σ o f i := by simp only [lk_mb, lk_sw]; rw [if_neg h]
theorem lk_bf (h : ¬ (o = 1 ∧ f = 0)) : lk_mb (lk_up σ o f i v) B = lk_up (lk_mb σ B) o f i v := by
  have e : (lk_up σ o f i v) 1 0 = σ 1 0 := by funext j; simp only [lk_up]; rw [if_neg (fun z => h ⟨z.1.symm, z.2.1.symm⟩)]
  unfold lk_mb
  rw [e]
  funext a b j
  simp only [lk_sw, lk_up]
  grind
theorem lk_br (h : i = 54 + 12 * f + j) (hf : f < 5) (hj : j < 12) : lk_mb σ B 1 0 i = B f j := by
  rw [lk_mb_r, lk_mbw]
  rw [if_pos (by omega), show (i - 54) / 12 = f by omega, show (i - 54) % 12 = j by omega]
theorem lk_br5 : lk_mb σ B 1 0 114 = B 5 0 := by rw [lk_mb_r, lk_mbw]; simp
theorem lk_bo (h : i < 54 ∨ 114 < i) : lk_mb σ B 1 0 i = σ 1 0 i := by
  rw [lk_mb_r, lk_mbw, if_neg (by omega), if_neg (by omega)]
theorem lk_bw (h : i = 54 + 12 * f + j) (hf : f < 5) (hj : j < 12) : lk_mb σ (lk_ou B f j v) = lk_up (lk_mb σ B) 1 0 i v := by
  funext a b x
  simp only [lk_mb, lk_sw, lk_up, lk_mbw, lk_ou]
  by_cases e : a = 1 ∧ b = 0
  · obtain ⟨rfl, rfl⟩ := e
    simp only [and_self, if_true, true_and]
    by_cases hx : x = i
    · subst hx
      rw [if_pos (by omega), if_pos (by constructor <;> omega), if_pos rfl]
    · rw [if_neg hx]
      by_cases hr : 54 ≤ x ∧ x < 114
      · rw [if_pos hr, if_pos hr, if_neg (by omega)]
      · rw [if_neg hr, if_neg hr]
        by_cases h4 : x = 114
        · rw [if_pos h4, if_pos h4, if_neg (by omega)]
        · rw [if_neg h4, if_neg h4]
  · rw [if_neg e, if_neg (by rintro ⟨rfl, rfl, _⟩; exact e ⟨rfl, rfl⟩), if_neg e]
theorem lk_bw5 : lk_mb σ (lk_ou B 5 0 v) = lk_up (lk_mb σ B) 1 0 114 v := by
  funext a b x
  simp only [lk_mb, lk_sw, lk_up, lk_mbw, lk_ou]
  by_cases e : a = 1 ∧ b = 0
  · obtain ⟨rfl, rfl⟩ := e
    simp only [and_self, if_true, true_and]
    by_cases hx : x = 114
    · subst hx; simp
    · by_cases hr : 54 ≤ x ∧ x < 114
      · rw [if_pos hr, if_neg (by omega), if_neg hx, if_pos hr]
      · rw [if_neg hr, if_neg hx, if_neg hx, if_neg hr, if_neg hx]
  · rw [if_neg e, if_neg (by rintro ⟨rfl, rfl, _⟩; exact e ⟨rfl, rfl⟩), if_neg e]
end MB
def lk_shB (B : lk_O) (a b i : Nat) : lk_O := fun g j => if g < i ∧ j = b then B g a else B g j
theorem lk_shB_0 (B : lk_O) (a b : Nat) : lk_shB B a b 0 = B := by funext g j; simp [lk_shB]
theorem lk_shB_s (B : lk_O) (a b i : Nat) : lk_ou (lk_shB B a b i) i b (lk_shB B a b i i a) = lk_shB B a b (i + 1) := by
  funext g j
  simp only [lk_ou, lk_shB]
  grind
theorem lk_shB_5 (B : lk_O) (a b : Nat) : lk_shB B a b 5 = lk_fcr B a b := rfl
theorem lk_frm_m (B : lk_O) {b n : Nat} (h : 1 ≤ n) : lk_ou (lk_shj B b (n - 1)) 5 0 (nI (n - 1)) = lk_frm B b n := by
  funext f i
  simp only [lk_ou, lk_shj, lk_frm]
  by_cases e : f = 5 ∧ i = 0
  · rw [if_pos e, if_neg (by omega), if_pos e]
  · rw [if_neg e]
    by_cases c : f < 5 ∧ b ≤ i ∧ i < n - 1
    · rw [if_pos c, if_pos (by omega)]
    · rw [if_neg c, if_neg (by omega), if_neg e]
theorem lk_shj_00 (B : lk_O) (b : Nat) : lk_shj B b b = B := by
  funext g j
  simp only [lk_shj]
  rw [if_neg (by omega)]
/-- a name as it should be: no figure behind an empty one -/
def lk_nok (v : Int32) : Prop := (∀ k, k < 4 → 0 ≤ lk_let v k ∧ lk_let v k ≤ 26) ∧ ∀ k, k < 3 → lk_let v k = 0 → lk_let v (k + 1) = 0
theorem lk_lett_0 {v : Int32} (h : lk_nok v) {k : Nat} (hk : k < 4) (h0 : ¬ 0 < lk_let v k) : lk_lett v k = -2 := by
  have e : lk_let v k = 0 := by
    rcases Int32.lt_or_eq_of_le (h.1 k hk).1 with q | q
    · exact absurd q h0
    · exact q.symm
  unfold lk_lett; rw [if_pos e]
theorem lk_96 {x : Int32} (h : 0 ≤ x) (h2 : x ≤ 26) : ¬ 96 + x = -2 := by
  intro e
  have a := Int32.le_iff_toInt_le.mp h
  have b := Int32.le_iff_toInt_le.mp h2
  rw [show (0 : Int32).toInt = 0 from rfl] at a
  rw [show (26 : Int32).toInt = 26 from rfl] at b
  have c := congrArg Int32.toInt e
  rw [lk_ta (show (96 : Int32).toInt = 96 from rfl) rfl (by decide) (by decide) (by omega) (by omega), show (-2 : Int32).toInt = -2 from rfl] at c
  omega
theorem lk_lett_1 {v : Int32} (hN : lk_nok v) {k : Nat} (hk : k < 4) (h0 : 0 < lk_let v k) : ¬ lk_lett v k = -2 := by
  unfold lk_lett
  rw [if_neg (fun e => by rw [e] at h0; exact absurd h0 (by decide))]
  exact lk_96 (Int32.le_of_lt h0) (hN.1 k hk).2
theorem lk_lcn_le (v : Int32) : ∀ m k, lk_lcn v m k ≤ k + m
  | 0, k => Nat.le_refl _
  | m + 1, k => by unfold lk_lcn; split; · omega
                   · have := lk_lcn_le v m (k + 1); omega
theorem lk_let_z {v : Int32} (hN : lk_nok v) {n : Nat} (h0 : lk_let v n = 0) : ∀ m, n + m < 4 → lk_let v (n + m) = 0
  | 0, _ => h0
  | m + 1, h => hN.2 (n + m) (by omega) (lk_let_z hN h0 m (by omega))
theorem lk_lett_z {v : Int32} (hN : lk_nok v) {n k : Nat} (h : n ≤ k) (hk : k < 4) (h0 : ¬ 0 < lk_let v n) : lk_lett v k = -2 := by
  have e : lk_let v n = 0 := by
    rcases Int32.lt_or_eq_of_le (hN.1 n (by omega)).1 with q | q
    · exact absurd q h0
    · exact q.symm
  have := lk_let_z hN e (k - n) (by omega)
  rw [show n + (k - n) = k by omega] at this
  unfold lk_lett; rw [if_pos this]
theorem lk_far4 {w : Int32} (hw : 14 ≤ w) : ¬ ¬ 4 ≤ w := fun q => q (Int32.le_trans (by decide) hw)
theorem lk_far5 {w : Int32} (hw : 14 ≤ w) : ¬ w = 4 := by rintro rfl; exact absurd hw (by decide)
theorem lk_far6 {w : Int32} (hw : 14 ≤ w) {n : Nat} (h : n ≤ 4) : ¬ ¬ nI n ≤ w - 10 := fun q => q (Int32.le_trans (nI_le (b := 4) h (by decide)) (lk_far hw))
set_option maxHeartbeats 1000000 in
set_option maxRecDepth 100000 in
theorem tX9_shifts (l : Launch) (X : lk_G) (d : Nat) (σ : lk_N) (τ : lk_T) (B : lk_O) (a b : Nat) (ha : a < 12) (hb : b < 12) : lk_Mt l X mX9_shifts d [lk_vr 1 0, lk_vi (nI (a)), lk_vi (nI (b))] (lk_mb σ B) τ (fun rr σ1 τ1 => rr = none ∧ σ1 = (lk_mb σ (lk_fcr B a b)) ∧ τ1 = τ) := by
  refine lk_met (L := [(0, lk_vr 1 0), (1, lk_vi (nI (a))), (2, lk_vi (nI (b)))]) (by decide +kernel) (Nat.le_of_ble_eq_true rfl) rfl ?_
  obtain ⟨Q, hQ⟩ : ∃ Q : lk_Q, Q = fun rr σ1 τ1 => rr = none ∧ σ1 = (lk_mb σ (lk_fcr B a b)) ∧ τ1 = τ := ⟨_, rfl⟩
  rw [← hQ]
  refine lk_iconst (v := 0) dX9_shifts_0 (by decide) ?_
  refine lk_istore_n (L' := [(0, lk_vr 1 0), (1, lk_vi (nI (a))), (2, lk_vi (nI (b))), (3, lk_vi 0)]) dX9_shifts_1 rfl (by decide +kernel) rfl ?_
  have LP2 : ∀ (fu : Nat) (i : Nat), i ≤ 5 → 5 - i < fu → lk_W l X mX9_shifts d 2 [(0, lk_vr 1 0), (1, lk_vi (nI (a))), (2, lk_vi (nI (b))), (3, lk_vi (nI (i)))] [] (lk_mb σ (lk_shB B a b i)) τ Q := by
    intro fu
    induction fu with
    | zero => intro i hi hfu; exact absurd hfu (by omega)
    | succ fu ih =>
      intro i hi hfu
      refine lk_iload_n dX9_shifts_2 rfl rfl ?_
      refine lk_iconst (v := 5) dX9_shifts_3 (by decide) ?_
      refine lk_icmp_geN (a := i) (b := 5) (tgt := 41) dX9_shifts_4 (by decide) (by omega) (by omega) (fun hh1 => ?_) (fun hh1 => ?_)
      ·
        refine lk_vret dX9_shifts_41 rfl ?_
        rw [hQ]
        have hi5 : i = 5 := by omega
        subst hi5
        exact ⟨rfl, rfl, rfl⟩
      ·
        refine lk_aload_n dX9_shifts_7 rfl rfl ?_
        refine lk_getR (f := 0) dX9_shifts_8 rfl fX9_9 (by decide) (by decide) ?_
        refine lk_bipush (v := 54) dX9_shifts_11 (by decide) ?_
        refine lk_bipush (v := 12) dX9_shifts_13 (by decide) ?_
        refine lk_iload_n dX9_shifts_15 rfl rfl ?_
        refine lk_imulN (a := 12) (b := i) dX9_shifts_16 ?_
        refine lk_iaddN (a := 54) (b := (12) * (i)) dX9_shifts_17 ?_
        refine lk_iload_n dX9_shifts_18 rfl rfl ?_
        refine lk_iaddN (a := 54 + (12) * (i)) (b := b) dX9_shifts_19 ?_
        refine lk_aload_n dX9_shifts_20 rfl rfl ?_
        refine lk_getR (f := 0) dX9_shifts_21 rfl fX9_9 (by decide) (by decide) ?_
        refine lk_bipush (v := 54) dX9_shifts_24 (by decide) ?_
        refine lk_bipush (v := 12) dX9_shifts_26 (by decide) ?_
        refine lk_iload_n dX9_shifts_28 rfl rfl ?_
        refine lk_imulN (a := 12) (b := i) dX9_shifts_29 ?_
        refine lk_iaddN (a := 54) (b := (12) * (i)) dX9_shifts_30 ?_
        refine lk_iload_n dX9_shifts_31 rfl rfl ?_
        refine lk_iaddN (a := 54 + (12) * (i)) (b := a) dX9_shifts_32 ?_
        refine lk_ialdN (f := 0) (i := 54 + (12) * (i) + a) dX9_shifts_33 rfl (by decide) rfl (by omega) (by decide) ?_
        refine lk_eqtop (y := ((lk_shB B a b i) (i) (a))) (lk_br (by omega) (by omega) (by omega)) ?_
        refine lk_iastN (f := 0) (i := 54 + (12) * (i) + b) (v := ((lk_shB B a b i) (i) (a))) dX9_shifts_34 rfl (by decide) rfl (by omega) (by decide) ?_
        refine lk_sg (σ' := (lk_mb σ (lk_ou (lk_shB B a b i) (i) (b) ((lk_shB B a b i) (i) (a))))) (lk_bw (by omega) (by omega) (by omega)) ?_
        refine lk_iincN (a := i) (m := 1) (L' := [(0, lk_vr 1 0), (1, lk_vi (nI (a))), (2, lk_vi (nI (b))), (3, lk_vi (nI (i + 1)))]) dX9_shifts_35 rfl rfl (by decide +kernel) rfl ?_
        refine lk_goto (tgt := 2) dX9_shifts_38 (by decide) ?_
        rw [lk_shB_s]
        exact ih (i + 1) (by omega) (by omega)
  refine lk_sg (σ' := lk_mb σ (lk_shB B a b 0)) (by rw [lk_shB_0]) ?_
  exact LP2 6 0 (by omega) (by omega)

set_option maxHeartbeats 1000000 in
set_option maxRecDepth 100000 in
theorem tX9_leaves_out (l : Launch) (X : lk_G) (d : Nat) (σ : lk_N) (τ : lk_T) (B : lk_O) (b : Int32) (h : ¬ ((0 : Int32) ≤ b ∧ b ≤ B 5 0 - 1)) : lk_Mt l X mX9_leaves (d + 2) [lk_vr 1 0, lk_vi (b)] (lk_mb σ B) τ (fun rr σ1 τ1 => rr = some (lk_vi (-1)) ∧ σ1 = (lk_mb σ B) ∧ τ1 = τ) := by
  refine lk_met (L := [(0, lk_vr 1 0), (1, lk_vi (b))]) (by decide +kernel) (Nat.le_of_ble_eq_true rfl) rfl ?_
  obtain ⟨Q, hQ⟩ : ∃ Q : lk_Q, Q = fun rr σ1 τ1 => rr = some (lk_vi (-1)) ∧ σ1 = (lk_mb σ B) ∧ τ1 = τ := ⟨_, rfl⟩
  rw [← hQ]
  refine lk_aload_n dX9_leaves_0 rfl rfl ?_
  refine lk_iload_n dX9_leaves_1 rfl rfl ?_
  refine lk_callV (o := 1) (as := [lk_vi (b)]) (S := []) dX9_leaves_2 rfl vX9_isBoat rfl lX9_112 rfl rfl (Nat.le_of_ble_eq_true rfl) (tX9_isBoat l X d (lk_mb σ B) τ (k := (b)) ) ?_
  refine lk_k3 ?_
  refine lk_cast (pc' := 5) (S' := [lk_vi (if (0 : Int32) ≤ (b) ∧ (b) ≤ (lk_mb σ B) 1 0 114 - 1 then 1 else 0)]) rfl rfl rfl ?_
  refine lk_if_neB (tgt := 10) dX9_leaves_5 (by decide) (fun hh1 => absurd hh1 (by rw [lk_br5]; exact h)) (fun hh1 => ?_)
  refine lk_iconst (v := (-1)) dX9_leaves_8 (by decide) ?_
  refine lk_iret .int dX9_leaves_9 rfl rfl ?_
  rw [hQ]
  exact ⟨by first | rfl | (simp [*]; done) | (simp_all; done) | grind, by first | rfl | (simp [*]; done), rfl⟩

set_option maxHeartbeats 1000000 in
set_option maxRecDepth 100000 in
theorem tX9_leaves_ok (l : Launch) (X : lk_G) (d : Nat) (σ : lk_N) (τ : lk_T) (B : lk_O) (nf b : Nat) (hn : B 5 0 = nI nf) (hb : b < nf) (hn12 : nf ≤ 12)  : lk_Mt l X mX9_leaves (d + 2) [lk_vr 1 0, lk_vi (nI (b))] (lk_mb σ B) τ (fun rr σ1 τ1 => rr = some (lk_vi (nI (nf - 1))) ∧ σ1 = (lk_mb σ (lk_frm B b nf)) ∧ τ1 = τ) := by
  refine lk_met (L := [(0, lk_vr 1 0), (1, lk_vi (nI (b)))]) (by decide +kernel) (Nat.le_of_ble_eq_true rfl) rfl ?_
  obtain ⟨Q, hQ⟩ : ∃ Q : lk_Q, Q = fun rr σ1 τ1 => rr = some (lk_vi (nI (nf - 1))) ∧ σ1 = (lk_mb σ (lk_frm B b nf)) ∧ τ1 = τ := ⟨_, rfl⟩
  rw [← hQ]
  refine lk_aload_n dX9_leaves_0 rfl rfl ?_
  refine lk_iload_n dX9_leaves_1 rfl rfl ?_
  refine lk_callV (o := 1) (as := [lk_vi (nI (b))]) (S := []) dX9_leaves_2 rfl vX9_isBoat rfl lX9_112 rfl rfl (Nat.le_of_ble_eq_true rfl) (tX9_isBoat l X d (lk_mb σ B) τ (k := (nI (b))) ) ?_
  refine lk_k3 ?_
  refine lk_cast (pc' := 5) (S' := [lk_vi (if (0 : Int32) ≤ (nI (b)) ∧ (nI (b)) ≤ (lk_mb σ B) 1 0 114 - 1 then 1 else 0)]) rfl rfl rfl ?_
  refine lk_if_neB (tgt := 10) dX9_leaves_5 (by decide) (fun hh1 => ?_) (fun hh1 => absurd hh1 (fun q => q (lk_isb (lk_br5.trans hn) hb hn12)))
  refine lk_iload_n dX9_leaves_10 rfl rfl ?_
  refine lk_iconst (v := 1) dX9_leaves_11 (by decide) ?_
  refine lk_iaddN (a := b) (b := 1) dX9_leaves_12 ?_
  refine lk_istore_n (L' := [(0, lk_vr 1 0), (1, lk_vi (nI (b))), (2, lk_vi (nI (b + 1)))]) dX9_leaves_13 rfl (by decide +kernel) rfl ?_
  have LP14 : ∀ (fu : Nat) (j : Nat), b ≤ j → j + 1 ≤ nf → nf - j < fu → lk_W l X mX9_leaves (d + 2) 14 [(0, lk_vr 1 0), (1, lk_vi (nI (b))), (2, lk_vi (nI (j + 1)))] [] (lk_mb σ (lk_shj B b j)) τ Q := by
    intro fu
    induction fu with
    | zero => intro j hbj hj hfu; exact absurd hfu (by omega)
    | succ fu ih =>
      intro j hbj hj hfu
      refine lk_iload_n dX9_leaves_14 rfl rfl ?_
      refine lk_aload_n dX9_leaves_15 rfl rfl ?_
      refine lk_getR (f := 0) dX9_leaves_16 rfl fX9_9 (by decide) (by decide) ?_
      refine lk_bipush (v := 114) dX9_leaves_19 (by decide) ?_
      refine lk_ialdN (f := 0) (i := 114) dX9_leaves_21 rfl (by decide) rfl (by omega) (by decide) ?_
      refine lk_eqtop (y := (nI (nf))) (lk_br5.trans hn) ?_
      refine lk_icmp_geN (a := j + 1) (b := nf) (tgt := 39) dX9_leaves_22 (by decide) (by omega) (by omega) (fun hh2 => ?_) (fun hh2 => ?_)
      ·
        have hj9 : j = nf - 1 := by omega
        subst hj9
        refine lk_aload_n dX9_leaves_39 rfl rfl ?_
        refine lk_getR (f := 0) dX9_leaves_40 rfl fX9_9 (by decide) (by decide) ?_
        refine lk_bipush (v := 114) dX9_leaves_43 (by decide) ?_
        refine lk_dup2 dX9_leaves_45 rfl rfl ?_
        refine lk_ialdN (f := 0) (i := 114) dX9_leaves_46 rfl (by decide) rfl (by omega) (by decide) ?_
        refine lk_eqtop (y := (nI (nf))) (lk_br5.trans hn) ?_
        refine lk_iconst (v := 1) dX9_leaves_47 (by decide) ?_
        refine lk_isubN (a := nf) (b := 1) dX9_leaves_48 (by omega) ?_
        refine lk_dup_x2 dX9_leaves_49 rfl rfl rfl ?_
        refine lk_iastN (f := 0) (i := 114) (v := (nI ((nf) - (1)))) dX9_leaves_50 rfl (by decide) rfl (by omega) (by decide) ?_
        refine lk_sg (σ' := (lk_mb σ (lk_ou (lk_shj B b (nf - 1)) 5 0 (nI ((nf) - (1)))))) (lk_bw5) ?_
        refine lk_iret .int dX9_leaves_51 rfl rfl ?_
        rw [hQ]
        exact ⟨rfl, by rw [lk_frm_m B (by omega)], rfl⟩
      ·
        refine lk_aload_n dX9_leaves_25 rfl rfl ?_
        refine lk_iload_n dX9_leaves_26 rfl rfl ?_
        refine lk_iload_n dX9_leaves_27 rfl rfl ?_
        refine lk_iconst (v := 1) dX9_leaves_28 (by decide) ?_
        refine lk_isubN (a := j + 1) (b := 1) dX9_leaves_29 (by omega) ?_
        refine lk_callV (o := 1) (as := [lk_vi (nI (j + 1)), lk_vi (nI ((j + 1) - (1)))]) (S := []) dX9_leaves_30 rfl vX9_shifts rfl lX9_98 rfl rfl (Nat.le_of_ble_eq_true rfl) (tX9_shifts l X (d + 1) σ τ (a := (j + 1)) (b := ((j + 1) - (1))) (B := (lk_shj B b j)) (ha := by omega) (hb := by omega)) ?_
        refine lk_k3 ?_
        refine lk_cast (pc' := 33) (S' := []) rfl rfl rfl ?_
        refine lk_iincN (a := j + 1) (m := 1) (L' := [(0, lk_vr 1 0), (1, lk_vi (nI (b))), (2, lk_vi (nI (j + 1 + 1)))]) dX9_leaves_33 rfl rfl (by decide +kernel) rfl ?_
        refine lk_goto (tgt := 14) dX9_leaves_36 (by decide) ?_
        rw [show j + 1 - 1 = j by omega, lk_shj_s B hbj]
        exact ih (j + 1) (by omega) (by omega) (by omega)
  refine lk_sg (σ' := lk_mb σ (lk_shj B b b)) (by rw [lk_shj_00]) ?_
  exact LP14 (nf + 1) b (by omega) (by omega) (by omega)

set_option maxHeartbeats 1000000 in
set_option maxRecDepth 100000 in
theorem tX9_about_out (l : Launch) (X : lk_G) (d : Nat) (σ : lk_N) (τ : lk_T) (B : lk_O) (b : Int32) (h : ¬ ((0 : Int32) ≤ b ∧ b ≤ B 5 0 - 1)) : lk_Mt l X mX9_about (d + 2) [lk_vr 1 0, lk_vi (b)] (lk_mb σ B) τ (fun rr σ1 τ1 => rr = some (lk_vi (-1)) ∧ σ1 = (lk_mb σ B) ∧ τ1 = τ) := by
  refine lk_met (L := [(0, lk_vr 1 0), (1, lk_vi (b))]) (by decide +kernel) (Nat.le_of_ble_eq_true rfl) rfl ?_
  obtain ⟨Q, hQ⟩ : ∃ Q : lk_Q, Q = fun rr σ1 τ1 => rr = some (lk_vi (-1)) ∧ σ1 = (lk_mb σ B) ∧ τ1 = τ := ⟨_, rfl⟩
  rw [← hQ]
  refine lk_aload_n dX9_about_0 rfl rfl ?_
  refine lk_iload_n dX9_about_1 rfl rfl ?_
  refine lk_callV (o := 1) (as := [lk_vi (b)]) (S := []) dX9_about_2 rfl vX9_isBoat rfl lX9_112 rfl rfl (Nat.le_of_ble_eq_true rfl) (tX9_isBoat l X d (lk_mb σ B) τ (k := (b)) ) ?_
  refine lk_k3 ?_
  refine lk_cast (pc' := 5) (S' := [lk_vi (if (0 : Int32) ≤ (b) ∧ (b) ≤ (lk_mb σ B) 1 0 114 - 1 then 1 else 0)]) rfl rfl rfl ?_
  refine lk_if_neB (tgt := 10) dX9_about_5 (by decide) (fun hh1 => absurd hh1 (by rw [lk_br5]; exact h)) (fun hh1 => ?_)
  refine lk_iconst (v := (-1)) dX9_about_8 (by decide) ?_
  refine lk_iret .int dX9_about_9 rfl rfl ?_
  rw [hQ]
  exact ⟨by first | rfl | (simp [*]; done) | (simp_all; done) | grind, by first | rfl | (simp [*]; done), rfl⟩

set_option maxHeartbeats 1000000 in
set_option maxRecDepth 100000 in
theorem tX9_about_ok (l : Launch) (X : lk_G) (d : Nat) (σ : lk_N) (τ : lk_T) (B : lk_O) (nf b : Nat) (hn : B 5 0 = nI nf) (hb : b < nf) (hn12 : nf ≤ 12) (h01 : B 3 b = 0 ∨ B 3 b = 1) : lk_Mt l X mX9_about (d + 2) [lk_vr 1 0, lk_vi (nI (b))] (lk_mb σ B) τ (fun rr σ1 τ1 => rr = some (lk_vi (if B 3 b = 0 then 1 else 0)) ∧ σ1 = (lk_mb σ (lk_ou B 3 b (if B 3 b = 0 then 1 else 0))) ∧ τ1 = τ) := by
  refine lk_met (L := [(0, lk_vr 1 0), (1, lk_vi (nI (b)))]) (by decide +kernel) (Nat.le_of_ble_eq_true rfl) rfl ?_
  obtain ⟨Q, hQ⟩ : ∃ Q : lk_Q, Q = fun rr σ1 τ1 => rr = some (lk_vi (if B 3 b = 0 then 1 else 0)) ∧ σ1 = (lk_mb σ (lk_ou B 3 b (if B 3 b = 0 then 1 else 0))) ∧ τ1 = τ := ⟨_, rfl⟩
  rw [← hQ]
  refine lk_aload_n dX9_about_0 rfl rfl ?_
  refine lk_iload_n dX9_about_1 rfl rfl ?_
  refine lk_callV (o := 1) (as := [lk_vi (nI (b))]) (S := []) dX9_about_2 rfl vX9_isBoat rfl lX9_112 rfl rfl (Nat.le_of_ble_eq_true rfl) (tX9_isBoat l X d (lk_mb σ B) τ (k := (nI (b))) ) ?_
  refine lk_k3 ?_
  refine lk_cast (pc' := 5) (S' := [lk_vi (if (0 : Int32) ≤ (nI (b)) ∧ (nI (b)) ≤ (lk_mb σ B) 1 0 114 - 1 then 1 else 0)]) rfl rfl rfl ?_
  refine lk_if_neB (tgt := 10) dX9_about_5 (by decide) (fun hh1 => ?_) (fun hh1 => absurd hh1 (fun q => q (lk_isb (lk_br5.trans hn) hb hn12)))
  refine lk_aload_n dX9_about_10 rfl rfl ?_
  refine lk_getR (f := 0) dX9_about_11 rfl fX9_9 (by decide) (by decide) ?_
  refine lk_bipush (v := 90) dX9_about_14 (by decide) ?_
  refine lk_iload_n dX9_about_16 rfl rfl ?_
  refine lk_iaddN (a := 90) (b := b) dX9_about_17 ?_
  refine lk_iconst (v := 1) dX9_about_18 (by decide) ?_
  refine lk_aload_n dX9_about_19 rfl rfl ?_
  refine lk_getR (f := 0) dX9_about_20 rfl fX9_9 (by decide) (by decide) ?_
  refine lk_bipush (v := 90) dX9_about_23 (by decide) ?_
  refine lk_iload_n dX9_about_25 rfl rfl ?_
  refine lk_iaddN (a := 90) (b := b) dX9_about_26 ?_
  refine lk_ialdN (f := 0) (i := 90 + b) dX9_about_27 rfl (by decide) rfl (by omega) (by decide) ?_
  refine lk_eqtop (y := (B (3) (b))) (lk_br (by omega) (by omega) (by omega)) ?_
  refine lk_isub dX9_about_28 ?_
  refine lk_iastN (f := 0) (i := 90 + b) (v := (1 - (B (3) (b)))) dX9_about_29 rfl (by decide) rfl (by omega) (by decide) ?_
  refine lk_sg (σ' := (lk_mb σ (lk_ou B (3) (b) (1 - (B (3) (b)))))) (lk_bw (by omega) (by omega) (by omega)) ?_
  refine lk_aload_n dX9_about_30 rfl rfl ?_
  refine lk_getR (f := 0) dX9_about_31 rfl fX9_9 (by decide) (by decide) ?_
  refine lk_bipush (v := 90) dX9_about_34 (by decide) ?_
  refine lk_iload_n dX9_about_36 rfl rfl ?_
  refine lk_iaddN (a := 90) (b := b) dX9_about_37 ?_
  refine lk_ialdN (f := 0) (i := 90 + b) dX9_about_38 rfl (by decide) rfl (by omega) (by decide) ?_
  refine lk_eqtop (y := ((lk_ou B (3) (b) (1 - (B (3) (b)))) (3) (b))) (lk_br (by omega) (by omega) (by omega)) ?_
  refine lk_iret .int dX9_about_39 rfl rfl ?_
  rw [hQ]
  have e : (1 : Int32) - B 3 b = if B 3 b = 0 then 1 else 0 := by rcases h01 with q | q <;> rw [q] <;> rfl
  refine ⟨?_, ?_, rfl⟩
  · rw [← e]; simp [lk_ou]
  · rw [← e]

set_option maxHeartbeats 1000000 in
set_option maxRecDepth 100000 in
theorem tX9_letter (l : Launch) (X : lk_G) (d : Nat) (σ : lk_N) (τ : lk_T) (v : Int32) (k : Nat) (hk : k ≤ 3) : lk_Mt l X mX9_letter d [lk_vi (v), lk_vi (nI (k))] σ τ (fun rr σ1 τ1 => rr = some (lk_vi (lk_let v k)) ∧ σ1 = σ ∧ τ1 = τ) := by
  refine lk_met (L := [(0, lk_vi (v)), (1, lk_vi (nI (k)))]) (by decide +kernel) (Nat.le_of_ble_eq_true rfl) rfl ?_
  obtain ⟨Q, hQ⟩ : ∃ Q : lk_Q, Q = fun rr σ1 τ1 => rr = some (lk_vi (lk_let v k)) ∧ σ1 = σ ∧ τ1 = τ := ⟨_, rfl⟩
  rw [← hQ]
  refine lk_iload_n dX9_letter_0 rfl rfl ?_
  refine lk_istore_n (L' := [(0, lk_vi (v)), (1, lk_vi (nI (k))), (2, lk_vi (v))]) dX9_letter_1 rfl (by decide +kernel) rfl ?_
  refine lk_iconst (v := 3) dX9_letter_2 (by decide) ?_
  refine lk_istore_n (L' := [(0, lk_vi (v)), (1, lk_vi (nI (k))), (2, lk_vi (v)), (3, lk_vi 3)]) dX9_letter_3 rfl (by decide +kernel) rfl ?_
  have LP4 : ∀ (fu : Nat) (i : Nat), k ≤ i → i ≤ 3 → i < fu → lk_W l X mX9_letter d 4 [(0, lk_vi (v)), (1, lk_vi (nI (k))), (2, lk_vi (lk_dv v (3 - i))), (3, lk_vi (nI (i)))] [] σ τ Q := by
    intro fu
    induction fu with
    | zero => intro i hki hi hfu; exact absurd hfu (by omega)
    | succ fu ih =>
      intro i hki hi hfu
      refine lk_iload_n dX9_letter_4 rfl rfl ?_
      refine lk_iload_n dX9_letter_5 rfl rfl ?_
      refine lk_icmp_leN (a := i) (b := k) (tgt := 20) dX9_letter_6 (by decide) (by omega) (by omega) (fun hh1 => ?_) (fun hh1 => ?_)
      ·
        refine lk_iload_n dX9_letter_20 rfl rfl ?_
        refine lk_bipush (v := 27) dX9_letter_21 (by decide) ?_
        refine lk_irem dX9_letter_23 (by decide) ?_
        refine lk_iret .int dX9_letter_24 rfl rfl ?_
        rw [hQ]
        have hik : i = k := by omega
        subst hik
        exact ⟨rfl, rfl, rfl⟩
      ·
        refine lk_iload_n dX9_letter_9 rfl rfl ?_
        refine lk_bipush (v := 27) dX9_letter_10 (by decide) ?_
        refine lk_idiv dX9_letter_12 (by decide) ?_
        refine lk_istore_n (L' := [(0, lk_vi (v)), (1, lk_vi (nI (k))), (2, lk_vi ((lk_dv v (3 - i)) / 27)), (3, lk_vi (nI (i)))]) dX9_letter_13 rfl (by decide +kernel) rfl ?_
        refine lk_idecN (a := i) (m := 1) (L' := [(0, lk_vi (v)), (1, lk_vi (nI (k))), (2, lk_vi ((lk_dv v (3 - i)) / 27)), (3, lk_vi (nI (i - 1)))]) dX9_letter_14 rfl rfl (by omega) (by decide +kernel) rfl ?_
        refine lk_goto (tgt := 4) dX9_letter_17 (by decide) ?_
        have e : lk_dv v (3 - i) / 27 = lk_dv v (3 - (i - 1)) := by rw [show 3 - (i - 1) = (3 - i) + 1 by omega]; rfl
        rw [e]
        exact ih (i - 1) (by omega) (by omega) (by omega)
  exact LP4 4 3 (by omega) (by omega) (by omega)

set_option maxHeartbeats 1000000 in
set_option maxRecDepth 100000 in
theorem tX9_boat_out (l : Launch) (X : lk_G) (d : Nat) (σ : lk_N) (τ : lk_T) (B : lk_O) (b : Int32) (h : ¬ ((0 : Int32) ≤ b ∧ b ≤ B 5 0 - 1)) (w : Int32) : lk_Mt l X mX9_boat (d + 2) [lk_vr 1 0, lk_vi (b), lk_vi (w)] (lk_mb σ B) τ (fun rr σ1 τ1 => rr = some (lk_vi (-1)) ∧ σ1 = (lk_mb σ B) ∧ τ1 = τ) := by
  refine lk_met (L := [(0, lk_vr 1 0), (1, lk_vi (b)), (2, lk_vi (w))]) (by decide +kernel) (Nat.le_of_ble_eq_true rfl) rfl ?_
  obtain ⟨Q, hQ⟩ : ∃ Q : lk_Q, Q = fun rr σ1 τ1 => rr = some (lk_vi (-1)) ∧ σ1 = (lk_mb σ B) ∧ τ1 = τ := ⟨_, rfl⟩
  rw [← hQ]
  refine lk_aload_n dX9_boat_0 rfl rfl ?_
  refine lk_iload_n dX9_boat_1 rfl rfl ?_
  refine lk_callV (o := 1) (as := [lk_vi (b)]) (S := []) dX9_boat_2 rfl vX9_isBoat rfl lX9_112 rfl rfl (Nat.le_of_ble_eq_true rfl) (tX9_isBoat l X d (lk_mb σ B) τ (k := (b)) ) ?_
  refine lk_k3 ?_
  refine lk_cast (pc' := 5) (S' := [lk_vi (if (0 : Int32) ≤ (b) ∧ (b) ≤ (lk_mb σ B) 1 0 114 - 1 then 1 else 0)]) rfl rfl rfl ?_
  refine lk_if_eqB (tgt := 23) dX9_boat_5 (by decide) (fun hh1 => ?_) (fun hh1 => absurd hh1 (by rw [lk_br5]; exact h))
  refine lk_iconst (v := (-1)) dX9_boat_23 (by decide) ?_
  refine lk_iret .int dX9_boat_24 rfl rfl ?_
  rw [hQ]
  exact ⟨by first | rfl | (simp [*]; done) | (simp_all; done) | grind, by first | rfl | (simp [*]; done), rfl⟩

set_option maxHeartbeats 1000000 in
set_option maxRecDepth 100000 in
theorem tX9_boat_bad (l : Launch) (X : lk_G) (d : Nat) (σ : lk_N) (τ : lk_T) (B : lk_O) (nf b : Nat) (hn : B 5 0 = nI nf) (hb : b < nf) (hn12 : nf ≤ 12) (w : Int32) (h : w < 0 ∨ (4 < w ∧ w < 10)) : lk_Mt l X mX9_boat (d + 2) [lk_vr 1 0, lk_vi (nI (b)), lk_vi (w)] (lk_mb σ B) τ (fun rr σ1 τ1 => rr = some (lk_vi (-1)) ∧ σ1 = (lk_mb σ B) ∧ τ1 = τ) := by
  refine lk_met (L := [(0, lk_vr 1 0), (1, lk_vi (nI (b))), (2, lk_vi (w))]) (by decide +kernel) (Nat.le_of_ble_eq_true rfl) rfl ?_
  obtain ⟨Q, hQ⟩ : ∃ Q : lk_Q, Q = fun rr σ1 τ1 => rr = some (lk_vi (-1)) ∧ σ1 = (lk_mb σ B) ∧ τ1 = τ := ⟨_, rfl⟩
  rw [← hQ]
  refine lk_aload_n dX9_boat_0 rfl rfl ?_
  refine lk_iload_n dX9_boat_1 rfl rfl ?_
  refine lk_callV (o := 1) (as := [lk_vi (nI (b))]) (S := []) dX9_boat_2 rfl vX9_isBoat rfl lX9_112 rfl rfl (Nat.le_of_ble_eq_true rfl) (tX9_isBoat l X d (lk_mb σ B) τ (k := (nI (b))) ) ?_
  refine lk_k3 ?_
  refine lk_cast (pc' := 5) (S' := [lk_vi (if (0 : Int32) ≤ (nI (b)) ∧ (nI (b)) ≤ (lk_mb σ B) 1 0 114 - 1 then 1 else 0)]) rfl rfl rfl ?_
  refine lk_if_eqB (tgt := 23) dX9_boat_5 (by decide) (fun hh1 => absurd hh1 (fun q => q (lk_isb (lk_br5.trans hn) hb hn12))) (fun hh1 => ?_)
  refine lk_iload_n dX9_boat_8 rfl rfl ?_
  refine lk_if_lt (tgt := 23) dX9_boat_9 (by decide) (fun hh2 => ?_) (fun hh2 => ?_)
  ·
    refine lk_iconst (v := (-1)) dX9_boat_23 (by decide) ?_
    refine lk_iret .int dX9_boat_24 rfl rfl ?_
    rw [hQ]
    exact ⟨by first | rfl | (simp [*]; done) | (simp_all; done) | grind, by first | rfl | (simp [*]; done), rfl⟩
  ·
    refine lk_iload_n dX9_boat_12 rfl rfl ?_
    refine lk_iconst (v := 4) dX9_boat_13 (by decide) ?_
    refine lk_icmp_le (tgt := 25) dX9_boat_14 (by decide) (fun hh3 => ?_) (fun hh3 => ?_)
    ·
      exact absurd h (by rintro (z | ⟨z1, z2⟩) <;> first | contradiction | exact absurd z1 (Int32.not_lt.mpr (by assumption)) | exact absurd z2 (Int32.not_lt.mpr (by assumption)))
    ·
      refine lk_iload_n dX9_boat_17 rfl rfl ?_
      refine lk_bipush (v := 10) dX9_boat_18 (by decide) ?_
      refine lk_icmp_ge (tgt := 25) dX9_boat_20 (by decide) (fun hh4 => ?_) (fun hh4 => ?_)
      ·
        exact absurd h (by rintro (z | ⟨z1, z2⟩) <;> first | contradiction | exact absurd z1 (Int32.not_lt.mpr (by assumption)) | exact absurd z2 (Int32.not_lt.mpr (by assumption)))
      ·
        refine lk_iconst (v := (-1)) dX9_boat_23 (by decide) ?_
        refine lk_iret .int dX9_boat_24 rfl rfl ?_
        rw [hQ]
        exact ⟨by first | rfl | (simp [*]; done) | (simp_all; done) | grind, by first | rfl | (simp [*]; done), rfl⟩

set_option maxHeartbeats 1000000 in
set_option maxRecDepth 100000 in
theorem tX9_boat_0 (l : Launch) (X : lk_G) (d : Nat) (σ : lk_N) (τ : lk_T) (B : lk_O) (nf b : Nat) (hn : B 5 0 = nI nf) (hb : b < nf) (hn12 : nf ≤ 12)  : lk_Mt l X mX9_boat (d + 2) [lk_vr 1 0, lk_vi (nI (b)), lk_vi 0] (lk_mb σ B) τ (fun rr σ1 τ1 => rr = some (lk_vi (lk_fnum B b 0)) ∧ σ1 = (lk_mb σ B) ∧ τ1 = τ) := by
  refine lk_met (L := [(0, lk_vr 1 0), (1, lk_vi (nI (b))), (2, lk_vi 0)]) (by decide +kernel) (Nat.le_of_ble_eq_true rfl) rfl ?_
  obtain ⟨Q, hQ⟩ : ∃ Q : lk_Q, Q = fun rr σ1 τ1 => rr = some (lk_vi (lk_fnum B b 0)) ∧ σ1 = (lk_mb σ B) ∧ τ1 = τ := ⟨_, rfl⟩
  rw [← hQ]
  refine lk_aload_n dX9_boat_0 rfl rfl ?_
  refine lk_iload_n dX9_boat_1 rfl rfl ?_
  refine lk_callV (o := 1) (as := [lk_vi (nI (b))]) (S := []) dX9_boat_2 rfl vX9_isBoat rfl lX9_112 rfl rfl (Nat.le_of_ble_eq_true rfl) (tX9_isBoat l X d (lk_mb σ B) τ (k := (nI (b))) ) ?_
  refine lk_k3 ?_
  refine lk_cast (pc' := 5) (S' := [lk_vi (if (0 : Int32) ≤ (nI (b)) ∧ (nI (b)) ≤ (lk_mb σ B) 1 0 114 - 1 then 1 else 0)]) rfl rfl rfl ?_
  refine lk_if_eqB (tgt := 23) dX9_boat_5 (by decide) (fun hh1 => absurd hh1 (fun q => q (lk_isb (lk_br5.trans hn) hb hn12))) (fun hh1 => ?_)
  refine lk_iload_n dX9_boat_8 rfl rfl ?_
  refine lk_if_lt (tgt := 23) dX9_boat_9 (by decide) (fun hh2 => absurd hh2 (by decide)) (fun hh2 => ?_)
  refine lk_iload_n dX9_boat_12 rfl rfl ?_
  refine lk_iconst (v := 4) dX9_boat_13 (by decide) ?_
  refine lk_icmp_leN (a := 0) (b := 4) (tgt := 25) dX9_boat_14 (by decide) (by omega) (by omega) (fun hh3 => ?_) (fun hh3 => absurd hh3 (by decide))
  refine lk_aload_n dX9_boat_25 rfl rfl ?_
  refine lk_getR (f := 0) dX9_boat_26 rfl fX9_9 (by decide) (by decide) ?_
  refine lk_bipush (v := 54) dX9_boat_29 (by decide) ?_
  refine lk_iload_n dX9_boat_31 rfl rfl ?_
  refine lk_iaddN (a := 54) (b := b) dX9_boat_32 ?_
  refine lk_ialdN (f := 0) (i := 54 + b) dX9_boat_33 rfl (by decide) rfl (by omega) (by decide) ?_
  refine lk_eqtop (y := (B (0) (b))) (lk_br (by omega) (by omega) (by omega)) ?_
  refine lk_istore_n (L' := [(0, lk_vr 1 0), (1, lk_vi (nI (b))), (2, lk_vi 0), (3, lk_vi (B (0) (b)))]) dX9_boat_34 rfl (by decide +kernel) rfl ?_
  refine lk_iload_n dX9_boat_35 rfl rfl ?_
  refine lk_iconst (v := 4) dX9_boat_36 (by decide) ?_
  refine lk_icmp_geN (a := 0) (b := 4) (tgt := 55) dX9_boat_37 (by decide) (by omega) (by omega) (fun hh4 => absurd hh4 (by decide)) (fun hh4 => ?_)
  refine lk_aload_n dX9_boat_40 rfl rfl ?_
  refine lk_getR (f := 0) dX9_boat_41 rfl fX9_9 (by decide) (by decide) ?_
  refine lk_bipush (v := 66) dX9_boat_44 (by decide) ?_
  refine lk_bipush (v := 12) dX9_boat_46 (by decide) ?_
  refine lk_iload_n dX9_boat_48 rfl rfl ?_
  refine lk_imulN (a := 12) (b := 0) dX9_boat_49 ?_
  refine lk_iaddN (a := 66) (b := 0) dX9_boat_50 ?_
  refine lk_iload_n dX9_boat_51 rfl rfl ?_
  refine lk_iaddN (a := 66) (b := b) dX9_boat_52 ?_
  refine lk_ialdN (f := 0) (i := 66 + b) dX9_boat_53 rfl (by decide) rfl (by omega) (by decide) ?_
  refine lk_eqtop (y := (B (1) (b))) (lk_br (by omega) (by omega) (by omega)) ?_
  refine lk_iret .int dX9_boat_54 rfl rfl ?_
  rw [hQ]
  exact ⟨rfl, rfl, rfl⟩

set_option maxHeartbeats 1000000 in
set_option maxRecDepth 100000 in
theorem tX9_boat_1 (l : Launch) (X : lk_G) (d : Nat) (σ : lk_N) (τ : lk_T) (B : lk_O) (nf b : Nat) (hn : B 5 0 = nI nf) (hb : b < nf) (hn12 : nf ≤ 12)  : lk_Mt l X mX9_boat (d + 2) [lk_vr 1 0, lk_vi (nI (b)), lk_vi 1] (lk_mb σ B) τ (fun rr σ1 τ1 => rr = some (lk_vi (lk_fnum B b 1)) ∧ σ1 = (lk_mb σ B) ∧ τ1 = τ) := by
  refine lk_met (L := [(0, lk_vr 1 0), (1, lk_vi (nI (b))), (2, lk_vi 1)]) (by decide +kernel) (Nat.le_of_ble_eq_true rfl) rfl ?_
  obtain ⟨Q, hQ⟩ : ∃ Q : lk_Q, Q = fun rr σ1 τ1 => rr = some (lk_vi (lk_fnum B b 1)) ∧ σ1 = (lk_mb σ B) ∧ τ1 = τ := ⟨_, rfl⟩
  rw [← hQ]
  refine lk_aload_n dX9_boat_0 rfl rfl ?_
  refine lk_iload_n dX9_boat_1 rfl rfl ?_
  refine lk_callV (o := 1) (as := [lk_vi (nI (b))]) (S := []) dX9_boat_2 rfl vX9_isBoat rfl lX9_112 rfl rfl (Nat.le_of_ble_eq_true rfl) (tX9_isBoat l X d (lk_mb σ B) τ (k := (nI (b))) ) ?_
  refine lk_k3 ?_
  refine lk_cast (pc' := 5) (S' := [lk_vi (if (0 : Int32) ≤ (nI (b)) ∧ (nI (b)) ≤ (lk_mb σ B) 1 0 114 - 1 then 1 else 0)]) rfl rfl rfl ?_
  refine lk_if_eqB (tgt := 23) dX9_boat_5 (by decide) (fun hh1 => absurd hh1 (fun q => q (lk_isb (lk_br5.trans hn) hb hn12))) (fun hh1 => ?_)
  refine lk_iload_n dX9_boat_8 rfl rfl ?_
  refine lk_if_lt (tgt := 23) dX9_boat_9 (by decide) (fun hh2 => absurd hh2 (by decide)) (fun hh2 => ?_)
  refine lk_iload_n dX9_boat_12 rfl rfl ?_
  refine lk_iconst (v := 4) dX9_boat_13 (by decide) ?_
  refine lk_icmp_leN (a := 1) (b := 4) (tgt := 25) dX9_boat_14 (by decide) (by omega) (by omega) (fun hh3 => ?_) (fun hh3 => absurd hh3 (by decide))
  refine lk_aload_n dX9_boat_25 rfl rfl ?_
  refine lk_getR (f := 0) dX9_boat_26 rfl fX9_9 (by decide) (by decide) ?_
  refine lk_bipush (v := 54) dX9_boat_29 (by decide) ?_
  refine lk_iload_n dX9_boat_31 rfl rfl ?_
  refine lk_iaddN (a := 54) (b := b) dX9_boat_32 ?_
  refine lk_ialdN (f := 0) (i := 54 + b) dX9_boat_33 rfl (by decide) rfl (by omega) (by decide) ?_
  refine lk_eqtop (y := (B (0) (b))) (lk_br (by omega) (by omega) (by omega)) ?_
  refine lk_istore_n (L' := [(0, lk_vr 1 0), (1, lk_vi (nI (b))), (2, lk_vi 1), (3, lk_vi (B (0) (b)))]) dX9_boat_34 rfl (by decide +kernel) rfl ?_
  refine lk_iload_n dX9_boat_35 rfl rfl ?_
  refine lk_iconst (v := 4) dX9_boat_36 (by decide) ?_
  refine lk_icmp_geN (a := 1) (b := 4) (tgt := 55) dX9_boat_37 (by decide) (by omega) (by omega) (fun hh4 => absurd hh4 (by decide)) (fun hh4 => ?_)
  refine lk_aload_n dX9_boat_40 rfl rfl ?_
  refine lk_getR (f := 0) dX9_boat_41 rfl fX9_9 (by decide) (by decide) ?_
  refine lk_bipush (v := 66) dX9_boat_44 (by decide) ?_
  refine lk_bipush (v := 12) dX9_boat_46 (by decide) ?_
  refine lk_iload_n dX9_boat_48 rfl rfl ?_
  refine lk_imulN (a := 12) (b := 1) dX9_boat_49 ?_
  refine lk_iaddN (a := 66) (b := 12) dX9_boat_50 ?_
  refine lk_iload_n dX9_boat_51 rfl rfl ?_
  refine lk_iaddN (a := 78) (b := b) dX9_boat_52 ?_
  refine lk_ialdN (f := 0) (i := 78 + b) dX9_boat_53 rfl (by decide) rfl (by omega) (by decide) ?_
  refine lk_eqtop (y := (B (2) (b))) (lk_br (by omega) (by omega) (by omega)) ?_
  refine lk_iret .int dX9_boat_54 rfl rfl ?_
  rw [hQ]
  exact ⟨rfl, rfl, rfl⟩

set_option maxHeartbeats 1000000 in
set_option maxRecDepth 100000 in
theorem tX9_boat_2 (l : Launch) (X : lk_G) (d : Nat) (σ : lk_N) (τ : lk_T) (B : lk_O) (nf b : Nat) (hn : B 5 0 = nI nf) (hb : b < nf) (hn12 : nf ≤ 12) (h01 : B 3 b = 0 ∨ B 3 b = 1) : lk_Mt l X mX9_boat (d + 2) [lk_vr 1 0, lk_vi (nI (b)), lk_vi 2] (lk_mb σ B) τ (fun rr σ1 τ1 => rr = some (lk_vi (lk_fnum B b 2)) ∧ σ1 = (lk_mb σ B) ∧ τ1 = τ) := by
  refine lk_met (L := [(0, lk_vr 1 0), (1, lk_vi (nI (b))), (2, lk_vi 2)]) (by decide +kernel) (Nat.le_of_ble_eq_true rfl) rfl ?_
  obtain ⟨Q, hQ⟩ : ∃ Q : lk_Q, Q = fun rr σ1 τ1 => rr = some (lk_vi (lk_fnum B b 2)) ∧ σ1 = (lk_mb σ B) ∧ τ1 = τ := ⟨_, rfl⟩
  rw [← hQ]
  refine lk_aload_n dX9_boat_0 rfl rfl ?_
  refine lk_iload_n dX9_boat_1 rfl rfl ?_
  refine lk_callV (o := 1) (as := [lk_vi (nI (b))]) (S := []) dX9_boat_2 rfl vX9_isBoat rfl lX9_112 rfl rfl (Nat.le_of_ble_eq_true rfl) (tX9_isBoat l X d (lk_mb σ B) τ (k := (nI (b))) ) ?_
  refine lk_k3 ?_
  refine lk_cast (pc' := 5) (S' := [lk_vi (if (0 : Int32) ≤ (nI (b)) ∧ (nI (b)) ≤ (lk_mb σ B) 1 0 114 - 1 then 1 else 0)]) rfl rfl rfl ?_
  refine lk_if_eqB (tgt := 23) dX9_boat_5 (by decide) (fun hh1 => absurd hh1 (fun q => q (lk_isb (lk_br5.trans hn) hb hn12))) (fun hh1 => ?_)
  refine lk_iload_n dX9_boat_8 rfl rfl ?_
  refine lk_if_lt (tgt := 23) dX9_boat_9 (by decide) (fun hh2 => absurd hh2 (by decide)) (fun hh2 => ?_)
  refine lk_iload_n dX9_boat_12 rfl rfl ?_
  refine lk_iconst (v := 4) dX9_boat_13 (by decide) ?_
  refine lk_icmp_leN (a := 2) (b := 4) (tgt := 25) dX9_boat_14 (by decide) (by omega) (by omega) (fun hh3 => ?_) (fun hh3 => absurd hh3 (by decide))
  refine lk_aload_n dX9_boat_25 rfl rfl ?_
  refine lk_getR (f := 0) dX9_boat_26 rfl fX9_9 (by decide) (by decide) ?_
  refine lk_bipush (v := 54) dX9_boat_29 (by decide) ?_
  refine lk_iload_n dX9_boat_31 rfl rfl ?_
  refine lk_iaddN (a := 54) (b := b) dX9_boat_32 ?_
  refine lk_ialdN (f := 0) (i := 54 + b) dX9_boat_33 rfl (by decide) rfl (by omega) (by decide) ?_
  refine lk_eqtop (y := (B (0) (b))) (lk_br (by omega) (by omega) (by omega)) ?_
  refine lk_istore_n (L' := [(0, lk_vr 1 0), (1, lk_vi (nI (b))), (2, lk_vi 2), (3, lk_vi (B (0) (b)))]) dX9_boat_34 rfl (by decide +kernel) rfl ?_
  refine lk_iload_n dX9_boat_35 rfl rfl ?_
  refine lk_iconst (v := 4) dX9_boat_36 (by decide) ?_
  refine lk_icmp_geN (a := 2) (b := 4) (tgt := 55) dX9_boat_37 (by decide) (by omega) (by omega) (fun hh4 => absurd hh4 (by decide)) (fun hh4 => ?_)
  refine lk_aload_n dX9_boat_40 rfl rfl ?_
  refine lk_getR (f := 0) dX9_boat_41 rfl fX9_9 (by decide) (by decide) ?_
  refine lk_bipush (v := 66) dX9_boat_44 (by decide) ?_
  refine lk_bipush (v := 12) dX9_boat_46 (by decide) ?_
  refine lk_iload_n dX9_boat_48 rfl rfl ?_
  refine lk_imulN (a := 12) (b := 2) dX9_boat_49 ?_
  refine lk_iaddN (a := 66) (b := 24) dX9_boat_50 ?_
  refine lk_iload_n dX9_boat_51 rfl rfl ?_
  refine lk_iaddN (a := 90) (b := b) dX9_boat_52 ?_
  refine lk_ialdN (f := 0) (i := 90 + b) dX9_boat_53 rfl (by decide) rfl (by omega) (by decide) ?_
  refine lk_eqtop (y := (B (3) (b))) (lk_br (by omega) (by omega) (by omega)) ?_
  refine lk_iret .int dX9_boat_54 rfl rfl ?_
  rw [hQ]
  refine ⟨?_, rfl, rfl⟩
  rcases h01 with e | e <;> simp [lk_fnum, e]

set_option maxHeartbeats 1000000 in
set_option maxRecDepth 100000 in
theorem tX9_boat_3 (l : Launch) (X : lk_G) (d : Nat) (σ : lk_N) (τ : lk_T) (B : lk_O) (nf b : Nat) (hn : B 5 0 = nI nf) (hb : b < nf) (hn12 : nf ≤ 12)  : lk_Mt l X mX9_boat (d + 2) [lk_vr 1 0, lk_vi (nI (b)), lk_vi 3] (lk_mb σ B) τ (fun rr σ1 τ1 => rr = some (lk_vi (lk_fnum B b 3)) ∧ σ1 = (lk_mb σ B) ∧ τ1 = τ) := by
  refine lk_met (L := [(0, lk_vr 1 0), (1, lk_vi (nI (b))), (2, lk_vi 3)]) (by decide +kernel) (Nat.le_of_ble_eq_true rfl) rfl ?_
  obtain ⟨Q, hQ⟩ : ∃ Q : lk_Q, Q = fun rr σ1 τ1 => rr = some (lk_vi (lk_fnum B b 3)) ∧ σ1 = (lk_mb σ B) ∧ τ1 = τ := ⟨_, rfl⟩
  rw [← hQ]
  refine lk_aload_n dX9_boat_0 rfl rfl ?_
  refine lk_iload_n dX9_boat_1 rfl rfl ?_
  refine lk_callV (o := 1) (as := [lk_vi (nI (b))]) (S := []) dX9_boat_2 rfl vX9_isBoat rfl lX9_112 rfl rfl (Nat.le_of_ble_eq_true rfl) (tX9_isBoat l X d (lk_mb σ B) τ (k := (nI (b))) ) ?_
  refine lk_k3 ?_
  refine lk_cast (pc' := 5) (S' := [lk_vi (if (0 : Int32) ≤ (nI (b)) ∧ (nI (b)) ≤ (lk_mb σ B) 1 0 114 - 1 then 1 else 0)]) rfl rfl rfl ?_
  refine lk_if_eqB (tgt := 23) dX9_boat_5 (by decide) (fun hh1 => absurd hh1 (fun q => q (lk_isb (lk_br5.trans hn) hb hn12))) (fun hh1 => ?_)
  refine lk_iload_n dX9_boat_8 rfl rfl ?_
  refine lk_if_lt (tgt := 23) dX9_boat_9 (by decide) (fun hh2 => absurd hh2 (by decide)) (fun hh2 => ?_)
  refine lk_iload_n dX9_boat_12 rfl rfl ?_
  refine lk_iconst (v := 4) dX9_boat_13 (by decide) ?_
  refine lk_icmp_leN (a := 3) (b := 4) (tgt := 25) dX9_boat_14 (by decide) (by omega) (by omega) (fun hh3 => ?_) (fun hh3 => absurd hh3 (by decide))
  refine lk_aload_n dX9_boat_25 rfl rfl ?_
  refine lk_getR (f := 0) dX9_boat_26 rfl fX9_9 (by decide) (by decide) ?_
  refine lk_bipush (v := 54) dX9_boat_29 (by decide) ?_
  refine lk_iload_n dX9_boat_31 rfl rfl ?_
  refine lk_iaddN (a := 54) (b := b) dX9_boat_32 ?_
  refine lk_ialdN (f := 0) (i := 54 + b) dX9_boat_33 rfl (by decide) rfl (by omega) (by decide) ?_
  refine lk_eqtop (y := (B (0) (b))) (lk_br (by omega) (by omega) (by omega)) ?_
  refine lk_istore_n (L' := [(0, lk_vr 1 0), (1, lk_vi (nI (b))), (2, lk_vi 3), (3, lk_vi (B (0) (b)))]) dX9_boat_34 rfl (by decide +kernel) rfl ?_
  refine lk_iload_n dX9_boat_35 rfl rfl ?_
  refine lk_iconst (v := 4) dX9_boat_36 (by decide) ?_
  refine lk_icmp_geN (a := 3) (b := 4) (tgt := 55) dX9_boat_37 (by decide) (by omega) (by omega) (fun hh4 => absurd hh4 (by decide)) (fun hh4 => ?_)
  refine lk_aload_n dX9_boat_40 rfl rfl ?_
  refine lk_getR (f := 0) dX9_boat_41 rfl fX9_9 (by decide) (by decide) ?_
  refine lk_bipush (v := 66) dX9_boat_44 (by decide) ?_
  refine lk_bipush (v := 12) dX9_boat_46 (by decide) ?_
  refine lk_iload_n dX9_boat_48 rfl rfl ?_
  refine lk_imulN (a := 12) (b := 3) dX9_boat_49 ?_
  refine lk_iaddN (a := 66) (b := 36) dX9_boat_50 ?_
  refine lk_iload_n dX9_boat_51 rfl rfl ?_
  refine lk_iaddN (a := 102) (b := b) dX9_boat_52 ?_
  refine lk_ialdN (f := 0) (i := 102 + b) dX9_boat_53 rfl (by decide) rfl (by omega) (by decide) ?_
  refine lk_eqtop (y := (B (4) (b))) (lk_br (by omega) (by omega) (by omega)) ?_
  refine lk_iret .int dX9_boat_54 rfl rfl ?_
  rw [hQ]
  exact ⟨rfl, rfl, rfl⟩

set_option maxHeartbeats 1000000 in
set_option maxRecDepth 100000 in
theorem tX9_boat_4 (l : Launch) (X : lk_G) (d : Nat) (σ : lk_N) (τ : lk_T) (B : lk_O) (nf b : Nat) (hn : B 5 0 = nI nf) (hb : b < nf) (hn12 : nf ≤ 12) (hN : lk_nok (B 0 b))  : lk_Mt l X mX9_boat (d + 2) [lk_vr 1 0, lk_vi (nI (b)), lk_vi 4] (lk_mb σ B) τ (fun rr σ1 τ1 => rr = some (lk_vi (lk_fnum B b 4)) ∧ σ1 = (lk_mb σ B) ∧ τ1 = τ) := by
  refine lk_met (L := [(0, lk_vr 1 0), (1, lk_vi (nI (b))), (2, lk_vi 4)]) (by decide +kernel) (Nat.le_of_ble_eq_true rfl) rfl ?_
  obtain ⟨Q, hQ⟩ : ∃ Q : lk_Q, Q = fun rr σ1 τ1 => rr = some (lk_vi (lk_fnum B b 4)) ∧ σ1 = (lk_mb σ B) ∧ τ1 = τ := ⟨_, rfl⟩
  rw [← hQ]
  obtain ⟨R, hR⟩ : ∃ R, R = lk_lcn (B 0 b) 4 0 := ⟨_, rfl⟩
  refine lk_aload_n dX9_boat_0 rfl rfl ?_
  refine lk_iload_n dX9_boat_1 rfl rfl ?_
  refine lk_callV (o := 1) (as := [lk_vi (nI (b))]) (S := []) dX9_boat_2 rfl vX9_isBoat rfl lX9_112 rfl rfl (Nat.le_of_ble_eq_true rfl) (tX9_isBoat l X d (lk_mb σ B) τ (k := (nI (b))) ) ?_
  refine lk_k3 ?_
  refine lk_cast (pc' := 5) (S' := [lk_vi (if (0 : Int32) ≤ (nI (b)) ∧ (nI (b)) ≤ (lk_mb σ B) 1 0 114 - 1 then 1 else 0)]) rfl rfl rfl ?_
  refine lk_if_eqB (tgt := 23) dX9_boat_5 (by decide) (fun hh1 => absurd hh1 (fun q => q (lk_isb (lk_br5.trans hn) hb hn12))) (fun hh1 => ?_)
  refine lk_iload_n dX9_boat_8 rfl rfl ?_
  refine lk_if_lt (tgt := 23) dX9_boat_9 (by decide) (fun hh2 => absurd hh2 (by decide)) (fun hh2 => ?_)
  refine lk_iload_n dX9_boat_12 rfl rfl ?_
  refine lk_iconst (v := 4) dX9_boat_13 (by decide) ?_
  refine lk_icmp_leN (a := 4) (b := 4) (tgt := 25) dX9_boat_14 (by decide) (by omega) (by omega) (fun hh3 => ?_) (fun hh3 => absurd hh3 (by decide))
  refine lk_aload_n dX9_boat_25 rfl rfl ?_
  refine lk_getR (f := 0) dX9_boat_26 rfl fX9_9 (by decide) (by decide) ?_
  refine lk_bipush (v := 54) dX9_boat_29 (by decide) ?_
  refine lk_iload_n dX9_boat_31 rfl rfl ?_
  refine lk_iaddN (a := 54) (b := b) dX9_boat_32 ?_
  refine lk_ialdN (f := 0) (i := 54 + b) dX9_boat_33 rfl (by decide) rfl (by omega) (by decide) ?_
  refine lk_eqtop (y := (B (0) (b))) (lk_br (by omega) (by omega) (by omega)) ?_
  refine lk_istore_n (L' := [(0, lk_vr 1 0), (1, lk_vi (nI (b))), (2, lk_vi 4), (3, lk_vi (B (0) (b)))]) dX9_boat_34 rfl (by decide +kernel) rfl ?_
  refine lk_iload_n dX9_boat_35 rfl rfl ?_
  refine lk_iconst (v := 4) dX9_boat_36 (by decide) ?_
  refine lk_icmp_geN (a := 4) (b := 4) (tgt := 55) dX9_boat_37 (by decide) (by omega) (by omega) (fun hh4 => ?_) (fun hh4 => absurd hh4 (by decide))
  refine lk_iconst (v := 0) dX9_boat_55 (by decide) ?_
  refine lk_istore (L' := [(0, lk_vr 1 0), (1, lk_vi (nI (b))), (2, lk_vi 4), (3, lk_vi (B (0) (b))), (4, lk_vi 0)]) dX9_boat_56 (by decide +kernel) rfl ?_
  have LP58 : ∀ (fu : Nat) (n : Nat), n ≤ 4 → R = lk_lcn (B 0 b) (4 - n) n → (∀ a, a < n → 0 < lk_let (B 0 b) a) → 4 - n < fu → lk_W l X mX9_boat (d + 2) 58 [(0, lk_vr 1 0), (1, lk_vi (nI (b))), (2, lk_vi 4), (3, lk_vi (B 0 b)), (4, lk_vi (nI (n)))] [] (lk_mb σ B) τ Q := by
    intro fu
    induction fu with
    | zero => intro n hn4 hI hpos hfu; exact absurd hfu (by omega)
    | succ fu ih =>
      intro n hn4 hI hpos hfu
      refine lk_iload dX9_boat_58 rfl ?_
      refine lk_iconst (v := 4) dX9_boat_60 (by decide) ?_
      refine lk_icmp_geN (a := n) (b := 4) (tgt := 79) dX9_boat_61 (by decide) (by omega) (by omega) (fun hh5 => ?_) (fun hh5 => ?_)
      ·
        have hRn : R = n := by
          rcases Nat.lt_or_ge n 4 with q | q
          · rw [show 4 - n = (4 - (n + 1)) + 1 by omega, lk_lcn, if_pos (lk_lett_0 hN q (by first | assumption | (exfalso; omega) | exact Int32.not_lt.mpr (by assumption)))] at hI
            exact hI
          · rw [show 4 - n = 0 by omega] at hI
            exact hI
        refine lk_iload_n dX9_boat_79 rfl rfl ?_
        refine lk_iconst (v := 4) dX9_boat_80 (by decide) ?_
        refine lk_icmp_neN (a := 4) (b := 4) (tgt := 87) dX9_boat_81 (by decide) (by omega) (by omega) (fun hh6 => absurd hh6 (by decide)) (fun hh6 => ?_)
        refine lk_iload dX9_boat_84 rfl ?_
        refine lk_iret .int dX9_boat_86 rfl rfl ?_
        rw [hQ]
        rw [← hRn, hR]
        exact ⟨rfl, rfl, rfl⟩
      ·
        refine lk_iload_n dX9_boat_64 rfl rfl ?_
        refine lk_iload dX9_boat_65 rfl ?_
        refine lk_callS (as := [lk_vi (B 0 b), lk_vi (nI (n))]) (S := []) dX9_boat_67 rfl vX9_letter rfl lX9_115 (Nat.le_of_ble_eq_true rfl) (tX9_letter l X (d + 1) (lk_mb σ B) τ (v := (B 0 b)) (k := (n)) (hk := by omega)) ?_
        refine lk_k3 ?_
        refine lk_cast (pc' := 70) (S' := [lk_vi (lk_let (B 0 b) (n))]) rfl rfl rfl ?_
        refine lk_if_le (tgt := 79) dX9_boat_70 (by decide) (fun hh7 => ?_) (fun hh7 => ?_)
        ·
          have hRn : R = n := by
            rcases Nat.lt_or_ge n 4 with q | q
            · rw [show 4 - n = (4 - (n + 1)) + 1 by omega, lk_lcn, if_pos (lk_lett_0 hN q (by first | assumption | (exfalso; omega) | exact Int32.not_lt.mpr (by assumption)))] at hI
              exact hI
            · rw [show 4 - n = 0 by omega] at hI
              exact hI
          refine lk_iload_n dX9_boat_79 rfl rfl ?_
          refine lk_iconst (v := 4) dX9_boat_80 (by decide) ?_
          refine lk_icmp_neN (a := 4) (b := 4) (tgt := 87) dX9_boat_81 (by decide) (by omega) (by omega) (fun hh8 => absurd hh8 (by decide)) (fun hh8 => ?_)
          refine lk_iload dX9_boat_84 rfl ?_
          refine lk_iret .int dX9_boat_86 rfl rfl ?_
          rw [hQ]
          rw [← hRn, hR]
          exact ⟨rfl, rfl, rfl⟩
        ·
          refine lk_iincN (a := n) (m := 1) (L' := [(0, lk_vr 1 0), (1, lk_vi (nI (b))), (2, lk_vi 4), (3, lk_vi (B 0 b)), (4, lk_vi (nI (n + 1)))]) dX9_boat_73 rfl rfl (by decide +kernel) rfl ?_
          refine lk_goto (tgt := 58) dX9_boat_76 (by decide) ?_
          rw [show 4 - n = (4 - (n + 1)) + 1 by omega, lk_lcn, if_neg (lk_lett_1 hN (by omega) (Int32.not_le.mp (by assumption)))] at hI
          exact ih (n + 1) (by omega) hI (fun a ha => by
            rcases Nat.lt_or_ge a n with q | q
            · exact hpos a q
            · rw [show a = n by omega]; exact Int32.not_le.mp (by assumption)) (by omega)
  exact LP58 5 0 (by omega) hR (fun a ha => absurd ha (by omega)) (by omega)

set_option maxHeartbeats 1000000 in
set_option maxRecDepth 100000 in
theorem tX9_boat_let (l : Launch) (X : lk_G) (d : Nat) (σ : lk_N) (τ : lk_T) (B : lk_O) (nf b : Nat) (hn : B 5 0 = nI nf) (hb : b < nf) (hn12 : nf ≤ 12) (hN : lk_nok (B 0 b)) (k : Nat) (hk : k < 4) : lk_Mt l X mX9_boat (d + 2) [lk_vr 1 0, lk_vi (nI (b)), lk_vi (nI (k + 10))] (lk_mb σ B) τ (fun rr σ1 τ1 => rr = some (lk_vi (lk_lett (B 0 b) k)) ∧ σ1 = (lk_mb σ B) ∧ τ1 = τ) := by
  refine lk_met (L := [(0, lk_vr 1 0), (1, lk_vi (nI (b))), (2, lk_vi (nI (k + 10)))]) (by decide +kernel) (Nat.le_of_ble_eq_true rfl) rfl ?_
  obtain ⟨Q, hQ⟩ : ∃ Q : lk_Q, Q = fun rr σ1 τ1 => rr = some (lk_vi (lk_lett (B 0 b) k)) ∧ σ1 = (lk_mb σ B) ∧ τ1 = τ := ⟨_, rfl⟩
  rw [← hQ]
  obtain ⟨R, hR⟩ : ∃ R, R = lk_lcn (B 0 b) 4 0 := ⟨_, rfl⟩
  refine lk_aload_n dX9_boat_0 rfl rfl ?_
  refine lk_iload_n dX9_boat_1 rfl rfl ?_
  refine lk_callV (o := 1) (as := [lk_vi (nI (b))]) (S := []) dX9_boat_2 rfl vX9_isBoat rfl lX9_112 rfl rfl (Nat.le_of_ble_eq_true rfl) (tX9_isBoat l X d (lk_mb σ B) τ (k := (nI (b))) ) ?_
  refine lk_k3 ?_
  refine lk_cast (pc' := 5) (S' := [lk_vi (if (0 : Int32) ≤ (nI (b)) ∧ (nI (b)) ≤ (lk_mb σ B) 1 0 114 - 1 then 1 else 0)]) rfl rfl rfl ?_
  refine lk_if_eqB (tgt := 23) dX9_boat_5 (by decide) (fun hh1 => absurd hh1 (fun q => q (lk_isb (lk_br5.trans hn) hb hn12))) (fun hh1 => ?_)
  refine lk_iload_n dX9_boat_8 rfl rfl ?_
  refine lk_if_ltN (a := k + 10) (tgt := 23) dX9_boat_9 (by decide) (by omega) (fun hh2 => absurd hh2 (by omega)) (fun hh2 => ?_)
  refine lk_iload_n dX9_boat_12 rfl rfl ?_
  refine lk_iconst (v := 4) dX9_boat_13 (by decide) ?_
  refine lk_icmp_leN (a := k + 10) (b := 4) (tgt := 25) dX9_boat_14 (by decide) (by omega) (by omega) (fun hh3 => absurd hh3 (by omega)) (fun hh3 => ?_)
  refine lk_iload_n dX9_boat_17 rfl rfl ?_
  refine lk_bipush (v := 10) dX9_boat_18 (by decide) ?_
  refine lk_icmp_geN (a := k + 10) (b := 10) (tgt := 25) dX9_boat_20 (by decide) (by omega) (by omega) (fun hh4 => ?_) (fun hh4 => absurd hh4 (by omega))
  refine lk_aload_n dX9_boat_25 rfl rfl ?_
  refine lk_getR (f := 0) dX9_boat_26 rfl fX9_9 (by decide) (by decide) ?_
  refine lk_bipush (v := 54) dX9_boat_29 (by decide) ?_
  refine lk_iload_n dX9_boat_31 rfl rfl ?_
  refine lk_iaddN (a := 54) (b := b) dX9_boat_32 ?_
  refine lk_ialdN (f := 0) (i := 54 + b) dX9_boat_33 rfl (by decide) rfl (by omega) (by decide) ?_
  refine lk_eqtop (y := (B (0) (b))) (lk_br (by omega) (by omega) (by omega)) ?_
  refine lk_istore_n (L' := [(0, lk_vr 1 0), (1, lk_vi (nI (b))), (2, lk_vi (nI (k + 10))), (3, lk_vi (B (0) (b)))]) dX9_boat_34 rfl (by decide +kernel) rfl ?_
  refine lk_iload_n dX9_boat_35 rfl rfl ?_
  refine lk_iconst (v := 4) dX9_boat_36 (by decide) ?_
  refine lk_icmp_geN (a := k + 10) (b := 4) (tgt := 55) dX9_boat_37 (by decide) (by omega) (by omega) (fun hh5 => ?_) (fun hh5 => absurd hh5 (by omega))
  refine lk_iconst (v := 0) dX9_boat_55 (by decide) ?_
  refine lk_istore (L' := [(0, lk_vr 1 0), (1, lk_vi (nI (b))), (2, lk_vi (nI (k + 10))), (3, lk_vi (B (0) (b))), (4, lk_vi 0)]) dX9_boat_56 (by decide +kernel) rfl ?_
  have LP58 : ∀ (fu : Nat) (n : Nat), n ≤ 4 → R = lk_lcn (B 0 b) (4 - n) n → (∀ a, a < n → 0 < lk_let (B 0 b) a) → 4 - n < fu → lk_W l X mX9_boat (d + 2) 58 [(0, lk_vr 1 0), (1, lk_vi (nI (b))), (2, lk_vi (nI (k + 10))), (3, lk_vi (B 0 b)), (4, lk_vi (nI (n)))] [] (lk_mb σ B) τ Q := by
    intro fu
    induction fu with
    | zero => intro n hn4 hI hpos hfu; exact absurd hfu (by omega)
    | succ fu ih =>
      intro n hn4 hI hpos hfu
      refine lk_iload dX9_boat_58 rfl ?_
      refine lk_iconst (v := 4) dX9_boat_60 (by decide) ?_
      refine lk_icmp_geN (a := n) (b := 4) (tgt := 79) dX9_boat_61 (by decide) (by omega) (by omega) (fun hh6 => ?_) (fun hh6 => ?_)
      ·
        have hRn : R = n := by
          rcases Nat.lt_or_ge n 4 with q | q
          · rw [show 4 - n = (4 - (n + 1)) + 1 by omega, lk_lcn, if_pos (lk_lett_0 hN q (by first | assumption | (exfalso; omega) | exact Int32.not_lt.mpr (by assumption)))] at hI
            exact hI
          · rw [show 4 - n = 0 by omega] at hI
            exact hI
        refine lk_iload_n dX9_boat_79 rfl rfl ?_
        refine lk_iconst (v := 4) dX9_boat_80 (by decide) ?_
        refine lk_icmp_neN (a := k + 10) (b := 4) (tgt := 87) dX9_boat_81 (by decide) (by omega) (by omega) (fun hh7 => ?_) (fun hh7 => absurd hh7 (by omega))
        refine lk_iload_n dX9_boat_87 rfl rfl ?_
        refine lk_bipush (v := 10) dX9_boat_88 (by decide) ?_
        refine lk_isubN (a := k + 10) (b := 10) dX9_boat_90 (by omega) ?_
        refine lk_iload dX9_boat_91 rfl ?_
        refine lk_icmp_geN (a := (k + 10) - (10)) (b := n) (tgt := 112) dX9_boat_93 (by decide) (by omega) (by omega) (fun hh8 => ?_) (fun hh8 => ?_)
        ·
          refine lk_bipush (v := (-2)) dX9_boat_112 (by decide) ?_
          refine lk_iret .int dX9_boat_114 rfl rfl ?_
          rw [hQ]
          refine ⟨?_, rfl, rfl⟩
          rw [lk_lett_z hN (show n ≤ k by omega) hk (show ¬ 0 < lk_let (B 0 b) n from by first | assumption | exact Int32.not_lt.mpr (by assumption) | (exfalso; omega))]
        ·
          refine lk_bipush (v := 97) dX9_boat_96 (by decide) ?_
          refine lk_iload_n dX9_boat_98 rfl rfl ?_
          refine lk_iload_n dX9_boat_99 rfl rfl ?_
          refine lk_bipush (v := 10) dX9_boat_100 (by decide) ?_
          refine lk_isubN (a := k + 10) (b := 10) dX9_boat_102 (by omega) ?_
          refine lk_callS (as := [lk_vi (B 0 b), lk_vi (nI ((k + 10) - (10)))]) (S := [lk_vi 97]) dX9_boat_103 rfl vX9_letter rfl lX9_115 (Nat.le_of_ble_eq_true rfl) (tX9_letter l X (d + 1) (lk_mb σ B) τ (v := (B 0 b)) (k := ((k + 10) - (10))) (hk := by omega)) ?_
          refine lk_k3 ?_
          refine lk_cast (pc' := 106) (S' := [lk_vi (lk_let (B 0 b) ((k + 10) - (10))), lk_vi 97]) rfl rfl rfl ?_
          refine lk_iadd dX9_boat_106 ?_
          refine lk_iconst (v := 1) dX9_boat_107 (by decide) ?_
          refine lk_isub dX9_boat_108 ?_
          refine lk_goto (tgt := 114) dX9_boat_109 (by decide) ?_
          refine lk_iret .int dX9_boat_114 rfl rfl ?_
          rw [hQ]
          have hk3 : k + 10 - 10 = k := by omega
          have hkn : 0 < lk_let (B 0 b) k := hpos k (by omega)
          rw [hk3]
          refine ⟨?_, rfl, rfl⟩
          unfold lk_lett
          rw [if_neg (fun e => by rw [e] at hkn; exact absurd hkn (by decide))]
          congr 2
          grind
      ·
        refine lk_iload_n dX9_boat_64 rfl rfl ?_
        refine lk_iload dX9_boat_65 rfl ?_
        refine lk_callS (as := [lk_vi (B 0 b), lk_vi (nI (n))]) (S := []) dX9_boat_67 rfl vX9_letter rfl lX9_115 (Nat.le_of_ble_eq_true rfl) (tX9_letter l X (d + 1) (lk_mb σ B) τ (v := (B 0 b)) (k := (n)) (hk := by omega)) ?_
        refine lk_k3 ?_
        refine lk_cast (pc' := 70) (S' := [lk_vi (lk_let (B 0 b) (n))]) rfl rfl rfl ?_
        refine lk_if_le (tgt := 79) dX9_boat_70 (by decide) (fun hh9 => ?_) (fun hh9 => ?_)
        ·
          have hRn : R = n := by
            rcases Nat.lt_or_ge n 4 with q | q
            · rw [show 4 - n = (4 - (n + 1)) + 1 by omega, lk_lcn, if_pos (lk_lett_0 hN q (by first | assumption | (exfalso; omega) | exact Int32.not_lt.mpr (by assumption)))] at hI
              exact hI
            · rw [show 4 - n = 0 by omega] at hI
              exact hI
          refine lk_iload_n dX9_boat_79 rfl rfl ?_
          refine lk_iconst (v := 4) dX9_boat_80 (by decide) ?_
          refine lk_icmp_neN (a := k + 10) (b := 4) (tgt := 87) dX9_boat_81 (by decide) (by omega) (by omega) (fun hh10 => ?_) (fun hh10 => absurd hh10 (by omega))
          refine lk_iload_n dX9_boat_87 rfl rfl ?_
          refine lk_bipush (v := 10) dX9_boat_88 (by decide) ?_
          refine lk_isubN (a := k + 10) (b := 10) dX9_boat_90 (by omega) ?_
          refine lk_iload dX9_boat_91 rfl ?_
          refine lk_icmp_geN (a := (k + 10) - (10)) (b := n) (tgt := 112) dX9_boat_93 (by decide) (by omega) (by omega) (fun hh11 => ?_) (fun hh11 => ?_)
          ·
            refine lk_bipush (v := (-2)) dX9_boat_112 (by decide) ?_
            refine lk_iret .int dX9_boat_114 rfl rfl ?_
            rw [hQ]
            refine ⟨?_, rfl, rfl⟩
            rw [lk_lett_z hN (show n ≤ k by omega) hk (show ¬ 0 < lk_let (B 0 b) n from by first | assumption | exact Int32.not_lt.mpr (by assumption) | (exfalso; omega))]
          ·
            refine lk_bipush (v := 97) dX9_boat_96 (by decide) ?_
            refine lk_iload_n dX9_boat_98 rfl rfl ?_
            refine lk_iload_n dX9_boat_99 rfl rfl ?_
            refine lk_bipush (v := 10) dX9_boat_100 (by decide) ?_
            refine lk_isubN (a := k + 10) (b := 10) dX9_boat_102 (by omega) ?_
            refine lk_callS (as := [lk_vi (B 0 b), lk_vi (nI ((k + 10) - (10)))]) (S := [lk_vi 97]) dX9_boat_103 rfl vX9_letter rfl lX9_115 (Nat.le_of_ble_eq_true rfl) (tX9_letter l X (d + 1) (lk_mb σ B) τ (v := (B 0 b)) (k := ((k + 10) - (10))) (hk := by omega)) ?_
            refine lk_k3 ?_
            refine lk_cast (pc' := 106) (S' := [lk_vi (lk_let (B 0 b) ((k + 10) - (10))), lk_vi 97]) rfl rfl rfl ?_
            refine lk_iadd dX9_boat_106 ?_
            refine lk_iconst (v := 1) dX9_boat_107 (by decide) ?_
            refine lk_isub dX9_boat_108 ?_
            refine lk_goto (tgt := 114) dX9_boat_109 (by decide) ?_
            refine lk_iret .int dX9_boat_114 rfl rfl ?_
            rw [hQ]
            have hk3 : k + 10 - 10 = k := by omega
            have hkn : 0 < lk_let (B 0 b) k := hpos k (by omega)
            rw [hk3]
            refine ⟨?_, rfl, rfl⟩
            unfold lk_lett
            rw [if_neg (fun e => by rw [e] at hkn; exact absurd hkn (by decide))]
            congr 2
            grind
        ·
          refine lk_iincN (a := n) (m := 1) (L' := [(0, lk_vr 1 0), (1, lk_vi (nI (b))), (2, lk_vi (nI (k + 10))), (3, lk_vi (B 0 b)), (4, lk_vi (nI (n + 1)))]) dX9_boat_73 rfl rfl (by decide +kernel) rfl ?_
          refine lk_goto (tgt := 58) dX9_boat_76 (by decide) ?_
          rw [show 4 - n = (4 - (n + 1)) + 1 by omega, lk_lcn, if_neg (lk_lett_1 hN (by omega) (Int32.not_le.mp (by assumption)))] at hI
          exact ih (n + 1) (by omega) hI (fun a ha => by
            rcases Nat.lt_or_ge a n with q | q
            · exact hpos a q
            · rw [show a = n by omega]; exact Int32.not_le.mp (by assumption)) (by omega)
  exact LP58 5 0 (by omega) hR (fun a ha => absurd ha (by omega)) (by omega)

set_option maxHeartbeats 1000000 in
set_option maxRecDepth 100000 in
theorem tX9_boat_far (l : Launch) (X : lk_G) (d : Nat) (σ : lk_N) (τ : lk_T) (B : lk_O) (nf b : Nat) (hn : B 5 0 = nI nf) (hb : b < nf) (hn12 : nf ≤ 12) (hN : lk_nok (B 0 b)) (w : Int32) (hw : 14 ≤ w) : lk_Mt l X mX9_boat (d + 2) [lk_vr 1 0, lk_vi (nI (b)), lk_vi (w)] (lk_mb σ B) τ (fun rr σ1 τ1 => rr = some (lk_vi (-2)) ∧ σ1 = (lk_mb σ B) ∧ τ1 = τ) := by
  refine lk_met (L := [(0, lk_vr 1 0), (1, lk_vi (nI (b))), (2, lk_vi (w))]) (by decide +kernel) (Nat.le_of_ble_eq_true rfl) rfl ?_
  obtain ⟨Q, hQ⟩ : ∃ Q : lk_Q, Q = fun rr σ1 τ1 => rr = some (lk_vi (-2)) ∧ σ1 = (lk_mb σ B) ∧ τ1 = τ := ⟨_, rfl⟩
  rw [← hQ]
  obtain ⟨R, hR⟩ : ∃ R, R = lk_lcn (B 0 b) 4 0 := ⟨_, rfl⟩
  refine lk_aload_n dX9_boat_0 rfl rfl ?_
  refine lk_iload_n dX9_boat_1 rfl rfl ?_
  refine lk_callV (o := 1) (as := [lk_vi (nI (b))]) (S := []) dX9_boat_2 rfl vX9_isBoat rfl lX9_112 rfl rfl (Nat.le_of_ble_eq_true rfl) (tX9_isBoat l X d (lk_mb σ B) τ (k := (nI (b))) ) ?_
  refine lk_k3 ?_
  refine lk_cast (pc' := 5) (S' := [lk_vi (if (0 : Int32) ≤ (nI (b)) ∧ (nI (b)) ≤ (lk_mb σ B) 1 0 114 - 1 then 1 else 0)]) rfl rfl rfl ?_
  refine lk_if_eqB (tgt := 23) dX9_boat_5 (by decide) (fun hh1 => absurd hh1 (fun q => q (lk_isb (lk_br5.trans hn) hb hn12))) (fun hh1 => ?_)
  refine lk_iload_n dX9_boat_8 rfl rfl ?_
  refine lk_if_lt (tgt := 23) dX9_boat_9 (by decide) (fun hh2 => absurd hh2 (lk_far1 hw)) (fun hh2 => ?_)
  refine lk_iload_n dX9_boat_12 rfl rfl ?_
  refine lk_iconst (v := 4) dX9_boat_13 (by decide) ?_
  refine lk_icmp_le (tgt := 25) dX9_boat_14 (by decide) (fun hh3 => absurd hh3 (lk_far2 hw)) (fun hh3 => ?_)
  refine lk_iload_n dX9_boat_17 rfl rfl ?_
  refine lk_bipush (v := 10) dX9_boat_18 (by decide) ?_
  refine lk_icmp_ge (tgt := 25) dX9_boat_20 (by decide) (fun hh4 => ?_) (fun hh4 => absurd hh4 (lk_far3 hw))
  refine lk_aload_n dX9_boat_25 rfl rfl ?_
  refine lk_getR (f := 0) dX9_boat_26 rfl fX9_9 (by decide) (by decide) ?_
  refine lk_bipush (v := 54) dX9_boat_29 (by decide) ?_
  refine lk_iload_n dX9_boat_31 rfl rfl ?_
  refine lk_iaddN (a := 54) (b := b) dX9_boat_32 ?_
  refine lk_ialdN (f := 0) (i := 54 + b) dX9_boat_33 rfl (by decide) rfl (by omega) (by decide) ?_
  refine lk_eqtop (y := (B (0) (b))) (lk_br (by omega) (by omega) (by omega)) ?_
  refine lk_istore_n (L' := [(0, lk_vr 1 0), (1, lk_vi (nI (b))), (2, lk_vi (w)), (3, lk_vi (B (0) (b)))]) dX9_boat_34 rfl (by decide +kernel) rfl ?_
  refine lk_iload_n dX9_boat_35 rfl rfl ?_
  refine lk_iconst (v := 4) dX9_boat_36 (by decide) ?_
  refine lk_icmp_ge (tgt := 55) dX9_boat_37 (by decide) (fun hh5 => ?_) (fun hh5 => absurd hh5 (lk_far4 hw))
  refine lk_iconst (v := 0) dX9_boat_55 (by decide) ?_
  refine lk_istore (L' := [(0, lk_vr 1 0), (1, lk_vi (nI (b))), (2, lk_vi (w)), (3, lk_vi (B (0) (b))), (4, lk_vi 0)]) dX9_boat_56 (by decide +kernel) rfl ?_
  have LP58 : ∀ (fu : Nat) (n : Nat), n ≤ 4 → R = lk_lcn (B 0 b) (4 - n) n → (∀ a, a < n → 0 < lk_let (B 0 b) a) → 4 - n < fu → lk_W l X mX9_boat (d + 2) 58 [(0, lk_vr 1 0), (1, lk_vi (nI (b))), (2, lk_vi (w)), (3, lk_vi (B 0 b)), (4, lk_vi (nI (n)))] [] (lk_mb σ B) τ Q := by
    intro fu
    induction fu with
    | zero => intro n hn4 hI hpos hfu; exact absurd hfu (by omega)
    | succ fu ih =>
      intro n hn4 hI hpos hfu
      refine lk_iload dX9_boat_58 rfl ?_
      refine lk_iconst (v := 4) dX9_boat_60 (by decide) ?_
      refine lk_icmp_geN (a := n) (b := 4) (tgt := 79) dX9_boat_61 (by decide) (by omega) (by omega) (fun hh6 => ?_) (fun hh6 => ?_)
      ·
        have hRn : R = n := by
          rcases Nat.lt_or_ge n 4 with q | q
          · rw [show 4 - n = (4 - (n + 1)) + 1 by omega, lk_lcn, if_pos (lk_lett_0 hN q (by first | assumption | (exfalso; omega) | exact Int32.not_lt.mpr (by assumption)))] at hI
            exact hI
          · rw [show 4 - n = 0 by omega] at hI
            exact hI
        refine lk_iload_n dX9_boat_79 rfl rfl ?_
        refine lk_iconst (v := 4) dX9_boat_80 (by decide) ?_
        refine lk_icmp_ne (tgt := 87) dX9_boat_81 (by decide) (fun hh7 => ?_) (fun hh7 => absurd hh7 (lk_far5 hw))
        refine lk_iload_n dX9_boat_87 rfl rfl ?_
        refine lk_bipush (v := 10) dX9_boat_88 (by decide) ?_
        refine lk_isub dX9_boat_90 ?_
        refine lk_iload dX9_boat_91 rfl ?_
        refine lk_icmp_ge (tgt := 112) dX9_boat_93 (by decide) (fun hh8 => ?_) (fun hh8 => absurd hh8 (lk_far6 hw (by omega)))
        refine lk_bipush (v := (-2)) dX9_boat_112 (by decide) ?_
        refine lk_iret .int dX9_boat_114 rfl rfl ?_
        rw [hQ]
        exact ⟨by first | rfl | (simp [*]; done) | (simp_all; done) | grind, by first | rfl | (simp [*]; done), rfl⟩
      ·
        refine lk_iload_n dX9_boat_64 rfl rfl ?_
        refine lk_iload dX9_boat_65 rfl ?_
        refine lk_callS (as := [lk_vi (B 0 b), lk_vi (nI (n))]) (S := []) dX9_boat_67 rfl vX9_letter rfl lX9_115 (Nat.le_of_ble_eq_true rfl) (tX9_letter l X (d + 1) (lk_mb σ B) τ (v := (B 0 b)) (k := (n)) (hk := by omega)) ?_
        refine lk_k3 ?_
        refine lk_cast (pc' := 70) (S' := [lk_vi (lk_let (B 0 b) (n))]) rfl rfl rfl ?_
        refine lk_if_le (tgt := 79) dX9_boat_70 (by decide) (fun hh9 => ?_) (fun hh9 => ?_)
        ·
          have hRn : R = n := by
            rcases Nat.lt_or_ge n 4 with q | q
            · rw [show 4 - n = (4 - (n + 1)) + 1 by omega, lk_lcn, if_pos (lk_lett_0 hN q (by first | assumption | (exfalso; omega) | exact Int32.not_lt.mpr (by assumption)))] at hI
              exact hI
            · rw [show 4 - n = 0 by omega] at hI
              exact hI
          refine lk_iload_n dX9_boat_79 rfl rfl ?_
          refine lk_iconst (v := 4) dX9_boat_80 (by decide) ?_
          refine lk_icmp_ne (tgt := 87) dX9_boat_81 (by decide) (fun hh10 => ?_) (fun hh10 => absurd hh10 (lk_far5 hw))
          refine lk_iload_n dX9_boat_87 rfl rfl ?_
          refine lk_bipush (v := 10) dX9_boat_88 (by decide) ?_
          refine lk_isub dX9_boat_90 ?_
          refine lk_iload dX9_boat_91 rfl ?_
          refine lk_icmp_ge (tgt := 112) dX9_boat_93 (by decide) (fun hh11 => ?_) (fun hh11 => absurd hh11 (lk_far6 hw (by omega)))
          refine lk_bipush (v := (-2)) dX9_boat_112 (by decide) ?_
          refine lk_iret .int dX9_boat_114 rfl rfl ?_
          rw [hQ]
          exact ⟨by first | rfl | (simp [*]; done) | (simp_all; done) | grind, by first | rfl | (simp [*]; done), rfl⟩
        ·
          refine lk_iincN (a := n) (m := 1) (L' := [(0, lk_vr 1 0), (1, lk_vi (nI (b))), (2, lk_vi (w)), (3, lk_vi (B 0 b)), (4, lk_vi (nI (n + 1)))]) dX9_boat_73 rfl rfl (by decide +kernel) rfl ?_
          refine lk_goto (tgt := 58) dX9_boat_76 (by decide) ?_
          rw [show 4 - n = (4 - (n + 1)) + 1 by omega, lk_lcn, if_neg (lk_lett_1 hN (by omega) (Int32.not_le.mp (by assumption)))] at hI
          exact ih (n + 1) (by omega) hI (fun a ha => by
            rcases Nat.lt_or_ge a n with q | q
            · exact hpos a q
            · rw [show a = n by omega]; exact Int32.not_le.mp (by assumption)) (by omega)
  exact LP58 5 0 (by omega) hR (fun a ha => absurd ha (by omega)) (by omega)
