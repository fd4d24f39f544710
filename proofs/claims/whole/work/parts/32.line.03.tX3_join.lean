set_option maxHeartbeats 1000000 in
set_option maxRecDepth 100000 in
theorem tX3_join (l : Launch) (X : lk_G) (d : Nat) (σ : lk_N) (τ : lk_T) (g : Nat) (hg : lk_ko g = 3) (f : Nat) (hf : lk_ko f = 2) (n b c : Nat) (q : Nat → Nat) (hn : σ f 5 0 = nI n) (hn22 : n ≤ 22) (hb : b < n) (hc : σ g 1 0 = nI c) (hc22 : c < 22) (hq : ∀ i, i < c → σ g 0 i = nI (q i)) (hqn : ∀ i, i < c → q i < n) : lk_Mt l X mX3_join (d + 2) [lk_vr g 0, lk_vr f 0, lk_vi (nI (b))] σ τ (fun rr σ1 τ1 => rr = none ∧ τ1 = τ ∧ ∃ W : lk_O, σ1 = lk_so σ g W ∧ W 1 0 = nI (c + 1) ∧ ∀ i, i < c + 1 → W 0 i = nI (lk_sft (σ f 2) b c q i)) := by
  refine lk_met (L := [(0, lk_vr g 0), (1, lk_vr f 0), (2, lk_vi (nI (b)))]) (by decide +kernel) (Nat.le_of_ble_eq_true rfl) rfl ?_
  obtain ⟨Q, hQ⟩ : ∃ Q : lk_Q, Q = fun rr σ1 τ1 => rr = none ∧ τ1 = τ ∧ ∃ W : lk_O, σ1 = lk_so σ g W ∧ W 1 0 = nI (c + 1) ∧ ∀ i, i < c + 1 → W 0 i = nI (lk_sft (σ f 2) b c q i) := ⟨_, rfl⟩
  rw [← hQ]
  have hfg : ¬ f = g := by intro e; rw [e, hg] at hf; cases hf
  obtain ⟨R, hR⟩ : ∃ R, R = lk_sft (σ f 2) b c q := ⟨_, rfl⟩
  refine lk_aload_n dX3_join_0 rfl rfl ?_
  refine lk_getIv (v := nI (c)) (f := 1) dX3_join_1 hg fX3_17 (by decide) (by decide) hc ?_
  refine lk_bipush (v := 22) dX3_join_4 (by decide) ?_
  refine lk_icmp_ltN (a := c) (b := 22) (tgt := 10) dX3_join_6 (by decide) (by omega) (by omega) (fun hh1 => ?_) (fun hh1 => absurd hh1 (by omega))
  refine lk_aload_n dX3_join_10 rfl rfl ?_
  refine lk_getIv (v := nI (c)) (f := 1) dX3_join_11 hg fX3_17 (by decide) (by decide) hc ?_
  refine lk_istore_n (L' := [(0, lk_vr g 0), (1, lk_vr f 0), (2, lk_vi (nI (b))), (3, lk_vi (nI (c)))]) dX3_join_14 rfl (by decide +kernel) rfl ?_
  have LP15 : ∀ (fu : Nat) (p : Nat) (W : lk_O) (q2 : Nat → Nat), p ≤ c → W 1 0 = nI c → (∀ i, i < c + 1 → i ≠ p → W 0 i = nI (q2 i)) → (∀ i, i < p → q2 i < n) → R = lk_sft (σ f 2) b p q2 → p < fu → lk_W l X mX3_join (d + 2) 15 [(0, lk_vr g 0), (1, lk_vr f 0), (2, lk_vi (nI (b))), (3, lk_vi (nI (p)))] [] (lk_so σ g W) τ Q := by
    intro fu
    induction fu with
    | zero => intro p W q2 hp hwc hw hqn2 hI hfu; exact absurd hfu (by omega)
    | succ fu ih =>
      intro p W q2 hp hwc hw hqn2 hI hfu
      have hw1 : ∀ i, i < p → W 0 i = nI (q2 i) := fun i h => hw i (by omega) (by omega)
      refine lk_iload_n dX3_join_15 rfl rfl ?_
      refine lk_if_leN (a := p) (tgt := 59) dX3_join_16 (by decide) (by omega) (fun hh2 => ?_) (fun hh2 => ?_)
      ·
        refine lk_aload_n dX3_join_59 rfl rfl ?_
        refine lk_getR (f := 0) dX3_join_60 hg fX3_11 (by decide) (by decide) ?_
        refine lk_iload_n dX3_join_63 rfl rfl ?_
        refine lk_iload_n dX3_join_64 rfl rfl ?_
        refine lk_iastN (f := 0) (i := p) (v := nI (b)) dX3_join_65 hg (by decide) rfl (by omega) (by decide) ?_
        refine lk_aload_n dX3_join_66 rfl rfl ?_
        refine lk_dup dX3_join_67 rfl ?_
        refine lk_getIv (v := nI (c)) (f := 1) dX3_join_68 hg fX3_17 (by decide) (by decide) (by simp [lk_up, lk_so, hwc]) ?_
        refine lk_iconst (v := 1) dX3_join_71 (by decide) ?_
        refine lk_iaddN (a := c) (b := 1) dX3_join_72 ?_
        refine lk_putI (f := 1) dX3_join_73 hg fX3_17 (by decide) (by decide) ?_
        refine lk_vret dX3_join_76 rfl ?_
        rw [hQ]
        refine ⟨rfl, rfl, lk_ou (lk_ou W 0 p (nI b)) 1 0 (nI (c + 1)), by simp only [lk_up_so, lk_so_so, lk_so_eq], by simp [lk_ou], fun i hi => ?_⟩
        have hRp : R = va_up q2 p b := by
          by_cases e : p = 0
          · rw [hI, e]; rfl
          · have hp1 : p = (p - 1) + 1 := by omega
            rw [hI, hp1, lk_sft, if_neg (by first | assumption | (exfalso; omega) | exact Int32.not_lt.mpr (by assumption))]
            simp
        rw [← hR, hRp]
        by_cases e : i = p
        · subst e; simp [lk_ou, va_up]
        · simp only [lk_ou, va_up]
          rw [if_neg (by omega), if_neg (by omega), if_neg e]
          exact hw i hi e
      ·
        refine lk_aload_n dX3_join_19 rfl rfl ?_
        refine lk_aload_n dX3_join_20 rfl rfl ?_
        refine lk_getR (f := 0) dX3_join_21 hg fX3_11 (by decide) (by decide) ?_
        refine lk_iload_n dX3_join_24 rfl rfl ?_
        refine lk_iconst (v := 1) dX3_join_25 (by decide) ?_
        refine lk_isubN (a := p) (b := 1) dX3_join_26 (by omega) ?_
        refine lk_ialdN (f := 0) (i := (p) - (1)) dX3_join_27 hg (by decide) rfl (by omega) (by decide) ?_
        refine lk_eqtop (y := nI (q2 (p - 1))) (by rw [lk_so_eq]; exact hw1 (p - 1) (by omega)) ?_
        refine lk_callV (o := f) (as := [lk_vi (nI (q2 (p - 1)))]) (S := []) dX3_join_28 rfl vX2_rankOf rfl lX3_33 hf rfl (Nat.le_of_ble_eq_true rfl) (tX2_rankOf l X d (lk_so σ g W) τ (f := f) (b := (q2 (p - 1))) (hf := hf) (n := n) (hn := by rw [lk_so_ne hfg]; exact hn) (hb := hqn2 (p - 1) (by omega)) (hn22 := hn22)) ?_
        refine lk_k3 ?_
        refine lk_cast (pc' := 31) (S' := [lk_vi ((lk_so σ g W) f 2 (q2 (p - 1)))]) rfl rfl rfl ?_
        refine lk_aload_n dX3_join_31 rfl rfl ?_
        refine lk_iload_n dX3_join_32 rfl rfl ?_
        refine lk_callV (o := f) (as := [lk_vi (nI (b))]) (S := [lk_vi ((lk_so σ g W) f 2 (q2 (p - 1)))]) dX3_join_33 rfl vX2_rankOf rfl lX3_33 hf rfl (Nat.le_of_ble_eq_true rfl) (tX2_rankOf l X d (lk_so σ g W) τ (f := f) (b := (b)) (hf := hf) (n := n) (hn := by rw [lk_so_ne hfg]; exact hn) (hb := hb) (hn22 := hn22)) ?_
        refine lk_k3 ?_
        refine lk_cast (pc' := 36) (S' := [lk_vi ((lk_so σ g W) f 2 (b)), lk_vi ((lk_so σ g W) f 2 (q2 (p - 1)))]) rfl rfl rfl ?_
        refine lk_icmp_ge (tgt := 59) dX3_join_36 (by decide) (fun hh3 => ?_) (fun hh3 => ?_)
        ·
          refine lk_aload_n dX3_join_59 rfl rfl ?_
          refine lk_getR (f := 0) dX3_join_60 hg fX3_11 (by decide) (by decide) ?_
          refine lk_iload_n dX3_join_63 rfl rfl ?_
          refine lk_iload_n dX3_join_64 rfl rfl ?_
          refine lk_iastN (f := 0) (i := p) (v := nI (b)) dX3_join_65 hg (by decide) rfl (by omega) (by decide) ?_
          refine lk_aload_n dX3_join_66 rfl rfl ?_
          refine lk_dup dX3_join_67 rfl ?_
          refine lk_getIv (v := nI (c)) (f := 1) dX3_join_68 hg fX3_17 (by decide) (by decide) (by simp [lk_up, lk_so, hwc]) ?_
          refine lk_iconst (v := 1) dX3_join_71 (by decide) ?_
          refine lk_iaddN (a := c) (b := 1) dX3_join_72 ?_
          refine lk_putI (f := 1) dX3_join_73 hg fX3_17 (by decide) (by decide) ?_
          refine lk_vret dX3_join_76 rfl ?_
          rw [hQ]
          refine ⟨rfl, rfl, lk_ou (lk_ou W 0 p (nI b)) 1 0 (nI (c + 1)), by simp only [lk_up_so, lk_so_so, lk_so_eq], by simp [lk_ou], fun i hi => ?_⟩
          have hRp : R = va_up q2 p b := by
            by_cases e : p = 0
            · rw [hI, e]; rfl
            · have hp1 : p = (p - 1) + 1 := by omega
              rw [hI, hp1, lk_sft, if_neg (by first | assumption | (exfalso; omega) | exact Int32.not_lt.mpr (by assumption))]
              simp
          rw [← hR, hRp]
          by_cases e : i = p
          · subst e; simp [lk_ou, va_up]
          · simp only [lk_ou, va_up]
            rw [if_neg (by omega), if_neg (by omega), if_neg e]
            exact hw i hi e
        ·
          refine lk_aload_n dX3_join_39 rfl rfl ?_
          refine lk_getR (f := 0) dX3_join_40 hg fX3_11 (by decide) (by decide) ?_
          refine lk_iload_n dX3_join_43 rfl rfl ?_
          refine lk_aload_n dX3_join_44 rfl rfl ?_
          refine lk_getR (f := 0) dX3_join_45 hg fX3_11 (by decide) (by decide) ?_
          refine lk_iload_n dX3_join_48 rfl rfl ?_
          refine lk_iconst (v := 1) dX3_join_49 (by decide) ?_
          refine lk_isubN (a := p) (b := 1) dX3_join_50 (by omega) ?_
          refine lk_ialdN (f := 0) (i := (p) - (1)) dX3_join_51 hg (by decide) rfl (by omega) (by decide) ?_
          refine lk_eqtop (y := nI (q2 (p - 1))) (by rw [lk_so_eq]; exact hw1 (p - 1) (by omega)) ?_
          refine lk_iastN (f := 0) (i := p) (v := nI (q2 (p - 1))) dX3_join_52 hg (by decide) rfl (by omega) (by decide) ?_
          refine lk_idecN (a := p) (m := 1) (L' := [(0, lk_vr g 0), (1, lk_vr f 0), (2, lk_vi (nI (b))), (3, lk_vi (nI (p - 1)))]) dX3_join_53 rfl rfl (by omega) (by decide +kernel) rfl ?_
          refine lk_goto (tgt := 15) dX3_join_56 (by decide) ?_
          rw [lk_up_so, lk_so_so, lk_so_eq]
          have hp1 : p = (p - 1) + 1 := by omega
          rw [hp1, lk_sft, if_pos (by first | assumption | exact Int32.not_le.mp (by assumption))] at hI
          refine ih (p - 1) _ _ (by omega) ?_ ?_ ?_ hI (by omega)
          · simp [lk_ou, hwc]
          · intro i h1 h2
            by_cases e : i = p
            · subst e; simp [lk_ou, va_up]; rw [← hp1]; simp
            · have e2 : ¬ i = p - 1 + 1 := by omega
              simp only [lk_ou, va_up]
              rw [if_neg (by omega), if_neg e2]
              exact hw i h1 e
          · intro i h1
            simp only [va_up]
            rw [if_neg (by omega)]
            exact hqn2 i (by omega)
  refine lk_sg (lk_so_self σ g) ?_
  exact LP15 (c + 1) c (σ g) q (Nat.le_refl _) hc (fun i h1 h2 => hq i (by omega)) hqn hR (by omega)
