theorem lk_k4 {α : Type} {r1 : Option lk_V} {τ1 : lk_T} {F : α → lk_N} {P : α → Prop} {R : Option lk_V → lk_N → lk_T → Prop} (h : ∀ W, P W → R r1 (F W) τ1) : ∀ r σ τ, (r = r1 ∧ τ = τ1 ∧ ∃ W, σ = F W ∧ P W) → R r σ τ := by
  rintro _ _ _ ⟨rfl, rfl, W, rfl, hW⟩; exact h W hW
/-- b comes into the row q from place p down: behind all whose rank isn't less -/
def lk_sft (R : Nat → Int32) (b : Nat) : Nat → (Nat → Nat) → (Nat → Nat)
  | 0, q => va_up q 0 b
  | p + 1, q => if R (q p) < R b then lk_sft R b p (va_up q (p + 1) (q p)) else va_up q (p + 1) b
/-- the boats 0 .. m - 1 of a reach that go a way: how many, and which -/
def lk_gat (B : lk_O) (r u : Int32) : Nat → Nat × (Nat → Nat)
  | 0 => (0, fun _ => 0)
  | m + 1 => if B 4 m = r ∧ B 3 m = u then ((lk_gat B r u m).1 + 1, lk_sft (B 2) m (lk_gat B r u m).1 (lk_gat B r u m).2) else lk_gat B r u m
theorem lk_gat_le (B : lk_O) (r u : Int32) : ∀ m, (lk_gat B r u m).1 ≤ m
  | 0 => Nat.le_refl _
  | m + 1 => by
    have := lk_gat_le B r u m
    unfold lk_gat
    split
    · show (lk_gat B r u m).1 + 1 ≤ m + 1; omega
    · omega
theorem lk_sft_lt (R : Nat → Int32) (b n : Nat) (hb : b < n) : ∀ (p : Nat) (q : Nat → Nat) (c : Nat), p ≤ c → (∀ i, i < c + 1 → i ≠ p → q i < n) → ∀ i, i < c + 1 → lk_sft R b p q i < n
  | 0, q, c, _, h, i, hi => by
    simp only [lk_sft, va_up]
    split
    · exact hb
    · rename_i e; exact h i hi e
  | p + 1, q, c, hp, h, i, hi => by
    simp only [lk_sft]
    split
    · refine lk_sft_lt R b n hb p _ c (by omega) (fun j hj hne => ?_) i hi
      simp only [va_up]
      split
      · exact h p (by omega) (by omega)
      · rename_i e; exact h j hj e
    · simp only [va_up]
      split
      · exact hb
      · rename_i e; exact h i hi e
theorem lk_gat_lt (B : lk_O) (r u : Int32) : ∀ m i, i < (lk_gat B r u m).1 → (lk_gat B r u m).2 i < m
  | 0, i, h => absurd h (Nat.not_lt_zero i)
  | m + 1, i, h => by
    have ih := lk_gat_lt B r u m
    unfold lk_gat at h ⊢
    split
    · rename_i e
      rw [if_pos e] at h
      exact lk_sft_lt (B 2) m (m + 1) (by omega) _ _ _ (Nat.le_refl _) (fun j hj hne => Nat.lt_succ_of_lt (ih j (by omega))) i h
    · rename_i e
      rw [if_neg e] at h
      exact Nat.lt_succ_of_lt (ih i h)
set_option maxHeartbeats 1000000 in
set_option maxRecDepth 100000 in
theorem tX3_boatAt_in (l : Launch) (X : lk_G) (d : Nat) (σ : lk_N) (τ : lk_T) (g : Nat) (hg : lk_ko g = 3) (c i x : Nat) (hc : σ g 1 0 = nI c) (hi : i < c) (hc22 : c ≤ 22) (hx : σ g 0 i = nI x) : lk_Mt l X mX3_boatAt d [lk_vr g 0, lk_vi (nI (i))] σ τ (fun rr σ1 τ1 => rr = some (lk_vi (nI (x))) ∧ σ1 = σ ∧ τ1 = τ) := by
  refine lk_met (L := [(0, lk_vr g 0), (1, lk_vi (nI (i)))]) (by decide +kernel) (Nat.le_of_ble_eq_true rfl) rfl ?_
  obtain ⟨Q, hQ⟩ : ∃ Q : lk_Q, Q = fun rr σ1 τ1 => rr = some (lk_vi (nI (x))) ∧ σ1 = σ ∧ τ1 = τ := ⟨_, rfl⟩
  rw [← hQ]
  refine lk_iload_n dX3_boatAt_0 rfl rfl ?_
  refine lk_if_ltN (a := i) (tgt := 21) dX3_boatAt_1 (by decide) (by omega) (fun hh1 => absurd hh1 (by omega)) (fun hh1 => ?_)
  refine lk_iload_n dX3_boatAt_4 rfl rfl ?_
  refine lk_aload_n dX3_boatAt_5 rfl rfl ?_
  refine lk_getIv (v := nI (c)) (f := 1) dX3_boatAt_6 hg fX3_17 (by decide) (by decide) hc ?_
  refine lk_icmp_geN (a := i) (b := c) (tgt := 21) dX3_boatAt_9 (by decide) (by omega) (by omega) (fun hh2 => absurd hh2 (by omega)) (fun hh2 => ?_)
  refine lk_aload_n dX3_boatAt_12 rfl rfl ?_
  refine lk_getR (f := 0) dX3_boatAt_13 hg fX3_11 (by decide) (by decide) ?_
  refine lk_iload_n dX3_boatAt_16 rfl rfl ?_
  refine lk_ialdN (f := 0) (i := i) dX3_boatAt_17 hg (by decide) rfl (by omega) (by decide) ?_
  refine lk_eqtop (y := nI (x)) hx ?_
  refine lk_goto (tgt := 23) dX3_boatAt_18 (by decide) ?_
  refine lk_iret .int dX3_boatAt_23 rfl rfl ?_
  rw [hQ]
  exact ⟨by first | rfl | (simp [*]; done) | (simp_all; done) | grind, by first | rfl | (simp [*]; done), rfl⟩

set_option maxHeartbeats 1000000 in
set_option maxRecDepth 100000 in
theorem tX3_boatAt_out (l : Launch) (X : lk_G) (d : Nat) (σ : lk_N) (τ : lk_T) (g : Nat) (hg : lk_ko g = 3) (i : Int32) (hi : i < 0 ∨ σ g 1 0 ≤ i) : lk_Mt l X mX3_boatAt d [lk_vr g 0, lk_vi (i)] σ τ (fun rr σ1 τ1 => rr = some (lk_vi (-2)) ∧ σ1 = σ ∧ τ1 = τ) := by
  refine lk_met (L := [(0, lk_vr g 0), (1, lk_vi (i))]) (by decide +kernel) (Nat.le_of_ble_eq_true rfl) rfl ?_
  obtain ⟨Q, hQ⟩ : ∃ Q : lk_Q, Q = fun rr σ1 τ1 => rr = some (lk_vi (-2)) ∧ σ1 = σ ∧ τ1 = τ := ⟨_, rfl⟩
  rw [← hQ]
  refine lk_iload_n dX3_boatAt_0 rfl rfl ?_
  refine lk_if_lt (tgt := 21) dX3_boatAt_1 (by decide) (fun hh1 => ?_) (fun hh1 => ?_)
  ·
    refine lk_bipush (v := (-2)) dX3_boatAt_21 (by decide) ?_
    refine lk_iret .int dX3_boatAt_23 rfl rfl ?_
    rw [hQ]
    first | exact ⟨rfl, rfl, rfl⟩ | (exfalso; simp_all [Int32.not_lt, Int32.not_le]; done)
  ·
    refine lk_iload_n dX3_boatAt_4 rfl rfl ?_
    refine lk_aload_n dX3_boatAt_5 rfl rfl ?_
    refine lk_getI (f := 1) dX3_boatAt_6 hg fX3_17 (by decide) (by decide) ?_
    refine lk_icmp_ge (tgt := 21) dX3_boatAt_9 (by decide) (fun hh2 => ?_) (fun hh2 => ?_)
    ·
      refine lk_bipush (v := (-2)) dX3_boatAt_21 (by decide) ?_
      refine lk_iret .int dX3_boatAt_23 rfl rfl ?_
      rw [hQ]
      first | exact ⟨rfl, rfl, rfl⟩ | (exfalso; simp_all [Int32.not_lt, Int32.not_le]; done)
    ·
      refine lk_aload_n dX3_boatAt_12 rfl rfl ?_
      refine lk_getR (f := 0) dX3_boatAt_13 hg fX3_11 (by decide) (by decide) ?_
      refine lk_iload_n dX3_boatAt_16 rfl rfl ?_
      refine lk_iald (f := 0) dX3_boatAt_17 hg (by decide) rfl (absurd hi (by rintro (z | z) <;> contradiction)) ?_
      refine lk_goto (tgt := 23) dX3_boatAt_18 (by decide) ?_
      refine lk_iret .int dX3_boatAt_23 rfl rfl ?_
      rw [hQ]
      first | exact ⟨rfl, rfl, rfl⟩ | (exfalso; simp_all [Int32.not_lt, Int32.not_le]; done)

set_option maxHeartbeats 1000000 in
set_option maxRecDepth 100000 in
theorem tX3_join (l : Launch) (X : lk_G) (d : Nat) (σ : lk_N) (τ : lk_T) (g : Nat) (hg : lk_ko g = 3) (f : Nat) (hf : lk_ko f = 2) (n b c : Nat) (q : Nat → Nat) (hn : σ f 5 0 = nI n) (hn22 : n ≤ 22) (hb : b < n) (hc : σ g 1 0 = nI c) (hc22 : c < 22) (hq : ∀ i, i < c → σ g 0 i = nI (q i)) (hqn : ∀ i, i < c → q i < n) : lk_Mt l X mX3_join (d + 2) [lk_vr g 0, lk_vr f 0, lk_vi (nI (b))] σ τ (fun rr σ1 τ1 => rr = none ∧ τ1 = τ ∧ ∃ W : lk_O, σ1 = lk_so σ g W ∧ W 1 0 = nI (c + 1) ∧ ∀ i, i < c + 1 → W 0 i = nI (lk_sft (σ f 2) b c q i)) := by
  refine lk_met (L := [(0, lk_vr g 0), (1, lk_vr f 0), (2, lk_vi (nI (b)))]) (by decide +kernel) (Nat.le_of_ble_eq_true rfl) rfl ?_
  obtain ⟨Q, hQ⟩ : ∃ Q : lk_Q, Q = fun rr σ1 τ1 => rr = none ∧ τ1 = τ ∧ ∃ W : lk_O, σ1 = lk_so σ g W ∧ W 1 0 = nI (c + 1) ∧ ∀ i, i < c + 1 → W 0 i = nI (lk_sft (σ f 2) b c q i) := ⟨_, rfl⟩
  rw [← hQ]
  have hfg : ¬ f = g := by intro e; rw [e, hg] at hf; cases hf
  obtain ⟨R, hR⟩ : ∃ R, R = lk_sft (σ f 2) b c q := ⟨_, rfl⟩
  refine lk_aload_n dX3_join_0 rfl rfl ?_
  refine lk_getIv (v := nI (c)) (f := 1) dX3_join_1 hg fX3_17 (by decide) (by decide) hc ?_
  refine lk_bipush (v := 22) dX3_join_4 (by decide) ?_
  refine lk_icmp_ltN (a := c) (b := 22) (tgt := 10) dX3_join_6 (by decide) (by omega) (by omega) (fun hh1 => ?_) (fun hh1 => absurd hh1 (by omega))
  refine lk_aload_n dX3_join_10 rfl rfl ?_
  refine lk_getIv (v := nI (c)) (f := 1) dX3_join_11 hg fX3_17 (by decide) (by decide) hc ?_
  refine lk_istore_n (L' := [(0, lk_vr g 0), (1, lk_vr f 0), (2, lk_vi (nI (b))), (3, lk_vi (nI (c)))]) dX3_join_14 rfl (by decide +kernel) rfl ?_
  have LP15 : ∀ (fu : Nat) (p : Nat) (W : lk_O) (q2 : Nat → Nat), p ≤ c → W 1 0 = nI c → (∀ i, i < c + 1 → i ≠ p → W 0 i = nI (q2 i)) → (∀ i, i < p → q2 i < n) → R = lk_sft (σ f 2) b p q2 → p < fu → lk_W l X mX3_join (d + 2) 15 [(0, lk_vr g 0), (1, lk_vr f 0), (2, lk_vi (nI (b))), (3, lk_vi (nI (p)))] [] (lk_so σ g W) τ Q := by
    intro fu
    induction fu with
    | zero => intro p W q2 hp hwc hw hqn2 hI hfu; exact absurd hfu (by omega)
    | succ fu ih =>
      intro p W q2 hp hwc hw hqn2 hI hfu
      have hw1 : ∀ i, i < p → W 0 i = nI (q2 i) := fun i h => hw i (by omega) (by omega)
      refine lk_iload_n dX3_join_15 rfl rfl ?_
      refine lk_if_leN (a := p) (tgt := 59) dX3_join_16 (by decide) (by omega) (fun hh2 => ?_) (fun hh2 => ?_)
      ·
        refine lk_aload_n dX3_join_59 rfl rfl ?_
        refine lk_getR (f := 0) dX3_join_60 hg fX3_11 (by decide) (by decide) ?_
        refine lk_iload_n dX3_join_63 rfl rfl ?_
        refine lk_iload_n dX3_join_64 rfl rfl ?_
        refine lk_iastN (f := 0) (i := p) (v := nI (b)) dX3_join_65 hg (by decide) rfl (by omega) (by decide) ?_
        refine lk_aload_n dX3_join_66 rfl rfl ?_
        refine lk_dup dX3_join_67 rfl ?_
        refine lk_getIv (v := nI (c)) (f := 1) dX3_join_68 hg fX3_17 (by decide) (by decide) (by simp [lk_up, lk_so, hwc]) ?_
        refine lk_iconst (v := 1) dX3_join_71 (by decide) ?_
        refine lk_iaddN (a := c) (b := 1) dX3_join_72 ?_
        refine lk_putI (f := 1) dX3_join_73 hg fX3_17 (by decide) (by decide) ?_
        refine lk_vret dX3_join_76 rfl ?_
        rw [hQ]
        refine ⟨rfl, rfl, lk_ou (lk_ou W 0 p (nI b)) 1 0 (nI (c + 1)), by simp only [lk_up_so, lk_so_so, lk_so_eq], by simp [lk_ou], fun i hi => ?_⟩
        have hRp : R = va_up q2 p b := by
          by_cases e : p = 0
          · rw [hI, e]; rfl
          · have hp1 : p = (p - 1) + 1 := by omega
            rw [hI, hp1, lk_sft, if_neg (by first | assumption | (exfalso; omega) | exact Int32.not_lt.mpr (by assumption))]
            try simp
        rw [← hR, hRp]
        by_cases e : i = p
        · subst e; simp [lk_ou, va_up]
        · simp only [lk_ou, va_up]
          rw [if_neg (by omega), if_neg (by omega), if_neg e]
          exact hw i hi e
      ·
        refine lk_aload_n dX3_join_19 rfl rfl ?_
        refine lk_aload_n dX3_join_20 rfl rfl ?_
        refine lk_getR (f := 0) dX3_join_21 hg fX3_11 (by decide) (by decide) ?_
        refine lk_iload_n dX3_join_24 rfl rfl ?_
        refine lk_iconst (v := 1) dX3_join_25 (by decide) ?_
        refine lk_isubN (a := p) (b := 1) dX3_join_26 (by omega) ?_
        refine lk_ialdN (f := 0) (i := (p) - (1)) dX3_join_27 hg (by decide) rfl (by omega) (by decide) ?_
        refine lk_eqtop (y := nI (q2 (p - 1))) (by rw [lk_so_eq]; exact hw1 (p - 1) (by omega)) ?_
        refine lk_callV (o := f) (as := [lk_vi (nI (q2 (p - 1)))]) (S := []) dX3_join_28 rfl vX2_rankOf rfl lX3_33 hf rfl (Nat.le_of_ble_eq_true rfl) (tX2_rankOf l X d (lk_so σ g W) τ (f := f) (b := (q2 (p - 1))) (hf := hf) (n := n) (hn := by rw [lk_so_ne hfg]; exact hn) (hb := hqn2 (p - 1) (by omega)) (hn22 := hn22)) ?_
        refine lk_k3 ?_
        refine lk_cast (pc' := 31) (S' := [lk_vi ((lk_so σ g W) f 2 (q2 (p - 1)))]) rfl rfl rfl ?_
        refine lk_eqtop (y := (σ f 2 (q2 (p - 1)))) (by rw [lk_so_ne hfg]) ?_
        refine lk_aload_n dX3_join_31 rfl rfl ?_
        refine lk_iload_n dX3_join_32 rfl rfl ?_
        refine lk_callV (o := f) (as := [lk_vi (nI (b))]) (S := [lk_vi (σ f 2 (q2 (p - 1)))]) dX3_join_33 rfl vX2_rankOf rfl lX3_33 hf rfl (Nat.le_of_ble_eq_true rfl) (tX2_rankOf l X d (lk_so σ g W) τ (f := f) (b := (b)) (hf := hf) (n := n) (hn := by rw [lk_so_ne hfg]; exact hn) (hb := hb) (hn22 := hn22)) ?_
        refine lk_k3 ?_
        refine lk_cast (pc' := 36) (S' := [lk_vi ((lk_so σ g W) f 2 (b)), lk_vi (σ f 2 (q2 (p - 1)))]) rfl rfl rfl ?_
        refine lk_eqtop (y := (σ f 2 (b))) (by rw [lk_so_ne hfg]) ?_
        refine lk_icmp_ge (tgt := 59) dX3_join_36 (by decide) (fun hh3 => ?_) (fun hh3 => ?_)
        ·
          refine lk_aload_n dX3_join_59 rfl rfl ?_
          refine lk_getR (f := 0) dX3_join_60 hg fX3_11 (by decide) (by decide) ?_
          refine lk_iload_n dX3_join_63 rfl rfl ?_
          refine lk_iload_n dX3_join_64 rfl rfl ?_
          refine lk_iastN (f := 0) (i := p) (v := nI (b)) dX3_join_65 hg (by decide) rfl (by omega) (by decide) ?_
          refine lk_aload_n dX3_join_66 rfl rfl ?_
          refine lk_dup dX3_join_67 rfl ?_
          refine lk_getIv (v := nI (c)) (f := 1) dX3_join_68 hg fX3_17 (by decide) (by decide) (by simp [lk_up, lk_so, hwc]) ?_
          refine lk_iconst (v := 1) dX3_join_71 (by decide) ?_
          refine lk_iaddN (a := c) (b := 1) dX3_join_72 ?_
          refine lk_putI (f := 1) dX3_join_73 hg fX3_17 (by decide) (by decide) ?_
          refine lk_vret dX3_join_76 rfl ?_
          rw [hQ]
          refine ⟨rfl, rfl, lk_ou (lk_ou W 0 p (nI b)) 1 0 (nI (c + 1)), by simp only [lk_up_so, lk_so_so, lk_so_eq], by simp [lk_ou], fun i hi => ?_⟩
          have hRp : R = va_up q2 p b := by
            by_cases e : p = 0
            · rw [hI, e]; rfl
            · have hp1 : p = (p - 1) + 1 := by omega
              rw [hI, hp1, lk_sft, if_neg (by first | assumption | (exfalso; omega) | exact Int32.not_lt.mpr (by assumption))]
              try simp
          rw [← hR, hRp]
          by_cases e : i = p
          · subst e; simp [lk_ou, va_up]
          · simp only [lk_ou, va_up]
            rw [if_neg (by omega), if_neg (by omega), if_neg e]
            exact hw i hi e
        ·
          refine lk_aload_n dX3_join_39 rfl rfl ?_
          refine lk_getR (f := 0) dX3_join_40 hg fX3_11 (by decide) (by decide) ?_
          refine lk_iload_n dX3_join_43 rfl rfl ?_
          refine lk_aload_n dX3_join_44 rfl rfl ?_
          refine lk_getR (f := 0) dX3_join_45 hg fX3_11 (by decide) (by decide) ?_
          refine lk_iload_n dX3_join_48 rfl rfl ?_
          refine lk_iconst (v := 1) dX3_join_49 (by decide) ?_
          refine lk_isubN (a := p) (b := 1) dX3_join_50 (by omega) ?_
          refine lk_ialdN (f := 0) (i := (p) - (1)) dX3_join_51 hg (by decide) rfl (by omega) (by decide) ?_
          refine lk_eqtop (y := nI (q2 (p - 1))) (by rw [lk_so_eq]; exact hw1 (p - 1) (by omega)) ?_
          refine lk_iastN (f := 0) (i := p) (v := nI (q2 (p - 1))) dX3_join_52 hg (by decide) rfl (by omega) (by decide) ?_
          refine lk_idecN (a := p) (m := 1) (L' := [(0, lk_vr g 0), (1, lk_vr f 0), (2, lk_vi (nI (b))), (3, lk_vi (nI (p - 1)))]) dX3_join_53 rfl rfl (by omega) (by decide +kernel) rfl ?_
          refine lk_goto (tgt := 15) dX3_join_56 (by decide) ?_
          rw [lk_up_so, lk_so_so, lk_so_eq]
          have hp1 : p = (p - 1) + 1 := by omega
          rw [hp1, lk_sft, if_pos (by first | assumption | exact Int32.not_le.mp (by assumption))] at hI
          refine ih (p - 1) _ _ (by omega) ?_ ?_ ?_ hI (by omega)
          · simp [lk_ou, hwc]
          · intro i h1 h2
            by_cases e : i = p
            · subst e; simp [lk_ou, va_up]; try (rw [← hp1]; simp)
            · have e2 : ¬ i = p - 1 + 1 := by omega
              simp only [lk_ou, va_up]
              rw [if_neg (by omega), if_neg e2]
              exact hw i h1 e
          · intro i h1
            simp only [va_up]
            rw [if_neg (by omega)]
            exact hqn2 i (by omega)
  refine lk_sg (lk_so_self σ g) ?_
  exact LP15 (c + 1) c (σ g) q (Nat.le_refl _) hc (fun i h1 h2 => hq i (by omega)) hqn hR (by omega)

set_option maxHeartbeats 1000000 in
set_option maxRecDepth 100000 in
theorem tX3_gather (l : Launch) (X : lk_G) (d : Nat) (σ : lk_N) (τ : lk_T) (g : Nat) (hg : lk_ko g = 3) (f : Nat) (hf : lk_ko f = 2) (n : Nat) (r u : Int32) (hn : σ f 5 0 = nI n) (hn22 : n ≤ 22) : lk_Mt l X mX3_gather (d + 3) [lk_vr g 0, lk_vr f 0, lk_vi (r), lk_vi (u)] σ τ (fun rr σ1 τ1 => rr = none ∧ τ1 = τ ∧ ∃ W : lk_O, σ1 = lk_so σ g W ∧ W 1 0 = nI (lk_gat (σ f) r u n).1 ∧ ∀ i, i < (lk_gat (σ f) r u n).1 → W 0 i = nI ((lk_gat (σ f) r u n).2 i)) := by
  refine lk_met (L := [(0, lk_vr g 0), (1, lk_vr f 0), (2, lk_vi (r)), (3, lk_vi (u))]) (by decide +kernel) (Nat.le_of_ble_eq_true rfl) rfl ?_
  obtain ⟨Q, hQ⟩ : ∃ Q : lk_Q, Q = fun rr σ1 τ1 => rr = none ∧ τ1 = τ ∧ ∃ W : lk_O, σ1 = lk_so σ g W ∧ W 1 0 = nI (lk_gat (σ f) r u n).1 ∧ ∀ i, i < (lk_gat (σ f) r u n).1 → W 0 i = nI ((lk_gat (σ f) r u n).2 i) := ⟨_, rfl⟩
  rw [← hQ]
  have hfg : ¬ f = g := by intro e; rw [e, hg] at hf; cases hf
  refine lk_aload_n dX3_gather_0 rfl rfl ?_
  refine lk_iconst (v := 0) dX3_gather_1 (by decide) ?_
  refine lk_putI (f := 1) dX3_gather_2 hg fX3_17 (by decide) (by decide) ?_
  refine lk_iconst (v := 0) dX3_gather_5 (by decide) ?_
  refine lk_istore (L' := [(0, lk_vr g 0), (1, lk_vr f 0), (2, lk_vi (r)), (3, lk_vi (u)), (4, lk_vi 0)]) dX3_gather_6 (by decide +kernel) rfl ?_
  have LP8 : ∀ (fu : Nat) (m : Nat) (W : lk_O), m ≤ n → W 1 0 = nI (lk_gat (σ f) r u m).1 → (∀ i, i < (lk_gat (σ f) r u m).1 → W 0 i = nI ((lk_gat (σ f) r u m).2 i)) → n - m < fu → lk_W l X mX3_gather (d + 3) 8 [(0, lk_vr g 0), (1, lk_vr f 0), (2, lk_vi (r)), (3, lk_vi (u)), (4, lk_vi (nI (m)))] [] (lk_so σ g W) τ Q := by
    intro fu
    induction fu with
    | zero => intro m W hm hWc hWq hfu; exact absurd hfu (by omega)
    | succ fu ih =>
      intro m W hm hWc hWq hfu
      refine lk_iload dX3_gather_8 rfl ?_
      refine lk_aload_n dX3_gather_10 rfl rfl ?_
      refine lk_getIv (v := nI (n)) (f := 5) dX3_gather_11 hf fX3_21 (by decide) (by decide) (by rw [lk_so_ne hfg]; exact hn) ?_
      refine lk_icmp_geN (a := m) (b := n) (tgt := 52) dX3_gather_14 (by decide) (by omega) (by omega) (fun hh1 => ?_) (fun hh1 => ?_)
      ·
        refine lk_vret dX3_gather_52 rfl ?_
        rw [hQ]
        have : m = n := by omega
        subst this
        exact ⟨rfl, rfl, W, rfl, hWc, hWq⟩
      ·
        refine lk_aload_n dX3_gather_17 rfl rfl ?_
        refine lk_getR (f := 4) dX3_gather_18 hf fX3_22 (by decide) (by decide) ?_
        refine lk_iload dX3_gather_21 rfl ?_
        refine lk_ialdN (f := 4) (i := m) dX3_gather_23 hf (by decide) rfl (by omega) (by decide) ?_
        refine lk_eqtop (y := (σ f 4 m)) (by rw [lk_so_ne hfg]) ?_
        refine lk_iload_n dX3_gather_24 rfl rfl ?_
        refine lk_icmp_ne (tgt := 46) dX3_gather_25 (by decide) (fun hh2 => ?_) (fun hh2 => ?_)
        ·
          refine lk_iincN (a := m) (m := 1) (L' := [(0, lk_vr g 0), (1, lk_vr f 0), (2, lk_vi (r)), (3, lk_vi (u)), (4, lk_vi (nI (m + 1)))]) dX3_gather_46 rfl rfl (by decide +kernel) rfl ?_
          refine lk_goto (tgt := 8) dX3_gather_49 (by decide) ?_
          have hs : lk_gat (σ f) r u (m + 1) = lk_gat (σ f) r u m := by
            rw [lk_gat, if_neg (by rintro ⟨z1, z2⟩; contradiction)]
          exact ih (m + 1) W (by omega) (by rw [hs]; exact hWc) (by rw [hs]; exact hWq) (by omega)
        ·
          refine lk_aload_n dX3_gather_28 rfl rfl ?_
          refine lk_getR (f := 3) dX3_gather_29 hf fX3_25 (by decide) (by decide) ?_
          refine lk_iload dX3_gather_32 rfl ?_
          refine lk_zaldN (f := 3) (i := m) dX3_gather_34 hf (by decide) rfl (by omega) (by decide) ?_
          refine lk_eqtop (y := (σ f 3 m)) (by rw [lk_so_ne hfg]) ?_
          refine lk_iload_n dX3_gather_35 rfl rfl ?_
          refine lk_icmp_ne (tgt := 46) dX3_gather_36 (by decide) (fun hh3 => ?_) (fun hh3 => ?_)
          ·
            refine lk_iincN (a := m) (m := 1) (L' := [(0, lk_vr g 0), (1, lk_vr f 0), (2, lk_vi (r)), (3, lk_vi (u)), (4, lk_vi (nI (m + 1)))]) dX3_gather_46 rfl rfl (by decide +kernel) rfl ?_
            refine lk_goto (tgt := 8) dX3_gather_49 (by decide) ?_
            have hs : lk_gat (σ f) r u (m + 1) = lk_gat (σ f) r u m := by
              rw [lk_gat, if_neg (by rintro ⟨z1, z2⟩; contradiction)]
            exact ih (m + 1) W (by omega) (by rw [hs]; exact hWc) (by rw [hs]; exact hWq) (by omega)
          ·
            refine lk_aload_n dX3_gather_39 rfl rfl ?_
            refine lk_aload_n dX3_gather_40 rfl rfl ?_
            refine lk_iload dX3_gather_41 rfl ?_
            refine lk_callV (o := g) (as := [lk_vr f 0, lk_vi (nI (m))]) (S := []) dX3_gather_43 rfl vX3_join rfl lX3_29 hg rfl (Nat.le_of_ble_eq_true rfl) (tX3_join l X d (lk_so σ g W) τ (g := g) (f := f) (b := (m)) (hg := hg) (hf := hf) (n := n) (c := (lk_gat (σ f) r u m).1) (q := (lk_gat (σ f) r u m).2) (hn := by rw [lk_so_ne hfg]; exact hn) (hn22 := hn22) (hb := by omega) (hc := by rw [lk_so_eq]; exact hWc) (hc22 := by have := lk_gat_le (σ f) r u m; omega) (hq := by rw [lk_so_eq]; exact hWq) (hqn := fun i h => Nat.lt_of_lt_of_le (lk_gat_lt (σ f) r u m i h) (by omega))) ?_
            refine lk_k4 (fun W2 hW2 => ?_)
            rw [lk_so_so]
            refine lk_cast (pc' := 46) (S' := []) rfl rfl rfl ?_
            refine lk_iincN (a := m) (m := 1) (L' := [(0, lk_vr g 0), (1, lk_vr f 0), (2, lk_vi (r)), (3, lk_vi (u)), (4, lk_vi (nI (m + 1)))]) dX3_gather_46 rfl rfl (by decide +kernel) rfl ?_
            refine lk_goto (tgt := 8) dX3_gather_49 (by decide) ?_
            have hs : lk_gat (σ f) r u (m + 1) = ((lk_gat (σ f) r u m).1 + 1, lk_sft (σ f 2) m (lk_gat (σ f) r u m).1 (lk_gat (σ f) r u m).2) := by
              rw [lk_gat, if_pos ⟨by assumption, by assumption⟩]
            refine ih (m + 1) W2 (by omega) ?_ ?_ (by omega)
            · rw [hs]; exact hW2.1
            · rw [hs]
              have hfx : (lk_so σ g W) f = σ f := lk_so_ne hfg
              rw [hfx] at hW2
              exact hW2.2
  rw [lk_up_so]
  exact LP8 (n + 1) 0 _ (Nat.zero_le _) (by simp [lk_ou, lk_gat, lk_nI0]) (fun i h => absurd h (Nat.not_lt_zero i)) (by omega)
