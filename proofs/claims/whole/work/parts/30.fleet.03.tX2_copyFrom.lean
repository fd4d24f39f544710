set_option maxHeartbeats 1000000 in
set_option maxRecDepth 100000 in
theorem tX2_copyFrom (l : Launch) (X : lk_G) (d : Nat) (σ : lk_N) (τ : lk_T) (f : Nat) (hf : lk_ko f = 2) (o : Nat) (ho : lk_ko o = 2) (hfo : ¬ f = o) (h01 : ∀ i, i < 22 → σ o 3 i = 0 ∨ σ o 3 i = 1) : lk_Mt l X mX2_copyFrom (d + 2) [lk_vr f 0, lk_vr o 0] σ τ (fun rr σ1 τ1 => rr = none ∧ σ1 = lk_so σ f (σ o) ∧ τ1 = τ) := by
  refine lk_met (L := [(0, lk_vr f 0), (1, lk_vr o 0)]) (by decide +kernel) (Nat.le_of_ble_eq_true rfl) rfl ?_
  obtain ⟨Q, hQ⟩ : ∃ Q : lk_Q, Q = fun rr σ1 τ1 => rr = none ∧ σ1 = lk_so σ f (σ o) ∧ τ1 = τ := ⟨_, rfl⟩
  rw [← hQ]
  have hof : ¬ o = f := fun e => hfo e.symm
  refine lk_aload_n dX2_copyFrom_0 rfl rfl ?_
  refine lk_aload_n dX2_copyFrom_1 rfl rfl ?_
  refine lk_getI (f := 5) dX2_copyFrom_2 ho fX2_28 (by decide) (by decide) ?_
  refine lk_putI (f := 5) dX2_copyFrom_5 hf fX2_28 (by decide) (by decide) ?_
  refine lk_aload_n dX2_copyFrom_8 rfl rfl ?_
  refine lk_getR (f := 0) dX2_copyFrom_9 ho fX2_11 (by decide) (by decide) ?_
  refine lk_iconst (v := 0) dX2_copyFrom_12 (by decide) ?_
  refine lk_aload_n dX2_copyFrom_13 rfl rfl ?_
  refine lk_getR (f := 0) dX2_copyFrom_14 hf fX2_11 (by decide) (by decide) ?_
  refine lk_iconst (v := 0) dX2_copyFrom_17 (by decide) ?_
  refine lk_bipush (v := 22) dX2_copyFrom_18 (by decide) ?_
  refine lk_copy (f := 0) (f' := 0) (n := 22) (k0 := 22) dX2_copyFrom_20 lX2_32 wNatC wStaC wIniC ho (by decide) rfl hf (by decide) rfl (by decide) rfl (by decide) (by decide) (Nat.le_of_ble_eq_true rfl) ?_
  refine lk_aload_n dX2_copyFrom_23 rfl rfl ?_
  refine lk_getR (f := 1) dX2_copyFrom_24 ho fX2_15 (by decide) (by decide) ?_
  refine lk_iconst (v := 0) dX2_copyFrom_27 (by decide) ?_
  refine lk_aload_n dX2_copyFrom_28 rfl rfl ?_
  refine lk_getR (f := 1) dX2_copyFrom_29 hf fX2_15 (by decide) (by decide) ?_
  refine lk_iconst (v := 0) dX2_copyFrom_32 (by decide) ?_
  refine lk_bipush (v := 22) dX2_copyFrom_33 (by decide) ?_
  refine lk_copy (f := 1) (f' := 1) (n := 22) (k0 := 22) dX2_copyFrom_35 lX2_32 wNatC wStaC wIniC ho (by decide) rfl hf (by decide) rfl (by decide) rfl (by decide) (by decide) (Nat.le_of_ble_eq_true rfl) ?_
  refine lk_aload_n dX2_copyFrom_38 rfl rfl ?_
  refine lk_getR (f := 2) dX2_copyFrom_39 ho fX2_18 (by decide) (by decide) ?_
  refine lk_iconst (v := 0) dX2_copyFrom_42 (by decide) ?_
  refine lk_aload_n dX2_copyFrom_43 rfl rfl ?_
  refine lk_getR (f := 2) dX2_copyFrom_44 hf fX2_18 (by decide) (by decide) ?_
  refine lk_iconst (v := 0) dX2_copyFrom_47 (by decide) ?_
  refine lk_bipush (v := 22) dX2_copyFrom_48 (by decide) ?_
  refine lk_copy (f := 2) (f' := 2) (n := 22) (k0 := 22) dX2_copyFrom_50 lX2_32 wNatC wStaC wIniC ho (by decide) rfl hf (by decide) rfl (by decide) rfl (by decide) (by decide) (Nat.le_of_ble_eq_true rfl) ?_
  refine lk_aload_n dX2_copyFrom_53 rfl rfl ?_
  refine lk_getR (f := 4) dX2_copyFrom_54 ho fX2_25 (by decide) (by decide) ?_
  refine lk_iconst (v := 0) dX2_copyFrom_57 (by decide) ?_
  refine lk_aload_n dX2_copyFrom_58 rfl rfl ?_
  refine lk_getR (f := 4) dX2_copyFrom_59 hf fX2_25 (by decide) (by decide) ?_
  refine lk_iconst (v := 0) dX2_copyFrom_62 (by decide) ?_
  refine lk_bipush (v := 22) dX2_copyFrom_63 (by decide) ?_
  refine lk_copy (f := 4) (f' := 4) (n := 22) (k0 := 22) dX2_copyFrom_65 lX2_32 wNatC wStaC wIniC ho (by decide) rfl hf (by decide) rfl (by decide) rfl (by decide) (by decide) (Nat.le_of_ble_eq_true rfl) ?_
  refine lk_ext (σ' := (lk_so σ f (lk_fcA (σ o) (σ f) 0))) (fun a f1 j hin => ?_) ?_
  · by_cases ha : a = f
    · subst ha
      rw [lk_so_eq]
      exact lk_fc_fin hof (lk_inr2 hf hin)
    · simp [lk_so, lk_cp, lk_up, ha]
  refine lk_iconst (v := 0) dX2_copyFrom_68 (by decide) ?_
  refine lk_istore_n (L' := [(0, lk_vr f 0), (1, lk_vr o 0), (2, lk_vi 0)]) dX2_copyFrom_69 rfl (by decide +kernel) rfl ?_
  have LP70 : ∀ (fu : Nat) (i : Nat), i ≤ 22 → 22 - i < fu → lk_W l X mX2_copyFrom (d + 2) 70 [(0, lk_vr f 0), (1, lk_vr o 0), (2, lk_vi (nI (i)))] [] (lk_so σ f (lk_fcA (σ o) (σ f) i)) τ Q := by
    intro fu
    induction fu with
    | zero => intro i hi hfu; exact absurd hfu (by omega)
    | succ fu ih =>
      intro i hi hfu
      refine lk_iload_n dX2_copyFrom_70 rfl rfl ?_
      refine lk_bipush (v := 22) dX2_copyFrom_71 (by decide) ?_
      refine lk_icmp_geN (a := i) (b := 22) (tgt := 94) dX2_copyFrom_73 (by decide) (by omega) (by omega) (fun hh1 => ?_) (fun hh1 => ?_)
      ·
        have hi6 : i = 22 := by omega
        subst hi6
        refine lk_ext (σ' := lk_so σ f (σ o)) (fun a f1 j hin => ?_) ?_
        · by_cases ha : a = f
          · subst ha
            rw [lk_so_eq, lk_so_eq]
            exact lk_fc_end (lk_inr2 hf hin)
          · simp [lk_so, ha]
        refine lk_vret dX2_copyFrom_94 rfl ?_
        rw [hQ]
        exact ⟨by first | rfl | (simp [*]; done) | (simp_all; done) | grind, by first | rfl | (simp [*]; done), rfl⟩
      ·
        refine lk_aload_n dX2_copyFrom_76 rfl rfl ?_
        refine lk_getR (f := 3) dX2_copyFrom_77 hf fX2_21 (by decide) (by decide) ?_
        refine lk_iload_n dX2_copyFrom_80 rfl rfl ?_
        refine lk_aload_n dX2_copyFrom_81 rfl rfl ?_
        refine lk_getR (f := 3) dX2_copyFrom_82 ho fX2_21 (by decide) (by decide) ?_
        refine lk_iload_n dX2_copyFrom_85 rfl rfl ?_
        refine lk_zaldN (f := 3) (i := i) dX2_copyFrom_86 ho (by decide) rfl (by omega) (by decide) ?_
        refine lk_eqtop (y := (σ o 3 i)) (by rw [lk_so_ne hof]) ?_
        refine lk_zastN (f := 3) (i := i) (v := (σ o 3 i)) dX2_copyFrom_87 hf (by decide) rfl (by omega) (by decide) (h01 i (by omega)) ?_
        refine lk_iincN (a := i) (m := 1) (L' := [(0, lk_vr f 0), (1, lk_vr o 0), (2, lk_vi (nI (i + 1)))]) dX2_copyFrom_88 rfl rfl (by decide +kernel) rfl ?_
        refine lk_goto (tgt := 70) dX2_copyFrom_91 (by decide) ?_
        rw [lk_fcA_s]
        exact ih (i + 1) (by omega) (by omega)
  exact LP70 23 0 (by omega) (by omega)
