set_option maxHeartbeats 1000000 in
set_option maxRecDepth 100000 in
theorem tX2_copyRow (l : Launch) (X : lk_G) (d : Nat) (σ : lk_N) (τ : lk_T) (f : Nat) (hf : lk_ko f = 2) (a b : Nat) (ha : a < 22) (hb : b < 22) (h01 : σ f 3 a = 0 ∨ σ f 3 a = 1) : lk_Mt l X mX2_copyRow d [lk_vr f 0, lk_vi (nI (a)), lk_vi (nI (b))] σ τ (fun rr σ1 τ1 => rr = none ∧ σ1 = lk_so σ f (lk_fcr (σ f) a b) ∧ τ1 = τ) := by
  refine lk_met (L := [(0, lk_vr f 0), (1, lk_vi (nI (a))), (2, lk_vi (nI (b)))]) (by decide +kernel) (Nat.le_of_ble_eq_true rfl) rfl ?_
  obtain ⟨Q, hQ⟩ : ∃ Q : lk_Q, Q = fun rr σ1 τ1 => rr = none ∧ σ1 = lk_so σ f (lk_fcr (σ f) a b) ∧ τ1 = τ := ⟨_, rfl⟩
  rw [← hQ]
  refine lk_aload_n dX2_copyRow_0 rfl rfl ?_
  refine lk_getR (f := 0) dX2_copyRow_1 hf fX2_11 (by decide) (by decide) ?_
  refine lk_iload_n dX2_copyRow_4 rfl rfl ?_
  refine lk_aload_n dX2_copyRow_5 rfl rfl ?_
  refine lk_getR (f := 0) dX2_copyRow_6 hf fX2_11 (by decide) (by decide) ?_
  refine lk_iload_n dX2_copyRow_9 rfl rfl ?_
  refine lk_ialdN (f := 0) (i := a) dX2_copyRow_10 hf (by decide) rfl (by omega) (by decide) ?_
  refine lk_iastN (f := 0) (i := b) (v := (σ f 0 (a))) dX2_copyRow_11 hf (by decide) rfl (by omega) (by decide) ?_
  refine lk_aload_n dX2_copyRow_12 rfl rfl ?_
  refine lk_getR (f := 1) dX2_copyRow_13 hf fX2_15 (by decide) (by decide) ?_
  refine lk_iload_n dX2_copyRow_16 rfl rfl ?_
  refine lk_aload_n dX2_copyRow_17 rfl rfl ?_
  refine lk_getR (f := 1) dX2_copyRow_18 hf fX2_15 (by decide) (by decide) ?_
  refine lk_iload_n dX2_copyRow_21 rfl rfl ?_
  refine lk_ialdN (f := 1) (i := a) dX2_copyRow_22 hf (by decide) rfl (by omega) (by decide) ?_
  refine lk_iastN (f := 1) (i := b) (v := ((lk_up σ f 0 (b) (σ f 0 (a))) f 1 (a))) dX2_copyRow_23 hf (by decide) rfl (by omega) (by decide) ?_
  refine lk_aload_n dX2_copyRow_24 rfl rfl ?_
  refine lk_getR (f := 2) dX2_copyRow_25 hf fX2_18 (by decide) (by decide) ?_
  refine lk_iload_n dX2_copyRow_28 rfl rfl ?_
  refine lk_aload_n dX2_copyRow_29 rfl rfl ?_
  refine lk_getR (f := 2) dX2_copyRow_30 hf fX2_18 (by decide) (by decide) ?_
  refine lk_iload_n dX2_copyRow_33 rfl rfl ?_
  refine lk_ialdN (f := 2) (i := a) dX2_copyRow_34 hf (by decide) rfl (by omega) (by decide) ?_
  refine lk_iastN (f := 2) (i := b) (v := ((lk_up (lk_up σ f 0 (b) (σ f 0 (a))) f 1 (b) ((lk_up σ f 0 (b) (σ f 0 (a))) f 1 (a))) f 2 (a))) dX2_copyRow_35 hf (by decide) rfl (by omega) (by decide) ?_
  refine lk_aload_n dX2_copyRow_36 rfl rfl ?_
  refine lk_getR (f := 3) dX2_copyRow_37 hf fX2_21 (by decide) (by decide) ?_
  refine lk_iload_n dX2_copyRow_40 rfl rfl ?_
  refine lk_aload_n dX2_copyRow_41 rfl rfl ?_
  refine lk_getR (f := 3) dX2_copyRow_42 hf fX2_21 (by decide) (by decide) ?_
  refine lk_iload_n dX2_copyRow_45 rfl rfl ?_
  refine lk_zaldN (f := 3) (i := a) dX2_copyRow_46 hf (by decide) rfl (by omega) (by decide) ?_
  refine lk_zastN (f := 3) (i := b) (v := ((lk_up (lk_up (lk_up σ f 0 (b) (σ f 0 (a))) f 1 (b) ((lk_up σ f 0 (b) (σ f 0 (a))) f 1 (a))) f 2 (b) ((lk_up (lk_up σ f 0 (b) (σ f 0 (a))) f 1 (b) ((lk_up σ f 0 (b) (σ f 0 (a))) f 1 (a))) f 2 (a))) f 3 (a))) dX2_copyRow_47 hf (by decide) rfl (by omega) (by decide) (by simp [lk_up]; exact h01) ?_
  refine lk_aload_n dX2_copyRow_48 rfl rfl ?_
  refine lk_getR (f := 4) dX2_copyRow_49 hf fX2_25 (by decide) (by decide) ?_
  refine lk_iload_n dX2_copyRow_52 rfl rfl ?_
  refine lk_aload_n dX2_copyRow_53 rfl rfl ?_
  refine lk_getR (f := 4) dX2_copyRow_54 hf fX2_25 (by decide) (by decide) ?_
  refine lk_iload_n dX2_copyRow_57 rfl rfl ?_
  refine lk_ialdN (f := 4) (i := a) dX2_copyRow_58 hf (by decide) rfl (by omega) (by decide) ?_
  refine lk_iastN (f := 4) (i := b) (v := ((lk_up (lk_up (lk_up (lk_up σ f 0 (b) (σ f 0 (a))) f 1 (b) ((lk_up σ f 0 (b) (σ f 0 (a))) f 1 (a))) f 2 (b) ((lk_up (lk_up σ f 0 (b) (σ f 0 (a))) f 1 (b) ((lk_up σ f 0 (b) (σ f 0 (a))) f 1 (a))) f 2 (a))) f 3 (b) ((lk_up (lk_up (lk_up σ f 0 (b) (σ f 0 (a))) f 1 (b) ((lk_up σ f 0 (b) (σ f 0 (a))) f 1 (a))) f 2 (b) ((lk_up (lk_up σ f 0 (b) (σ f 0 (a))) f 1 (b) ((lk_up σ f 0 (b) (σ f 0 (a))) f 1 (a))) f 2 (a))) f 3 (a))) f 4 (a))) dX2_copyRow_59 hf (by decide) rfl (by omega) (by decide) ?_
  refine lk_vret dX2_copyRow_60 rfl ?_
  rw [hQ]
  refine ⟨rfl, ?_, rfl⟩
  simp only [lk_up_so, lk_so_so, lk_so_eq]
  congr 1; funext g j
  simp only [lk_ou, lk_fcr]
  grind (splits := 24)
