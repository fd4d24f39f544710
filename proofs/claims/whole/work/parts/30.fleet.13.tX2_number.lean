set_option maxHeartbeats 1000000 in
set_option maxRecDepth 100000 in
theorem tX2_number (l : Launch) (X : lk_G) (d : Nat) (σ : lk_N) (τ : lk_T) (f : Nat) (hf : lk_ko f = 2) (n b : Nat) (hn : σ f 5 0 = nI n) (hb : b < n) (hn22 : n ≤ 22) (w : Nat) (hw : w ≤ 4) : lk_Mt l X mX2_number (d + 3) [lk_vr f 0, lk_vi (nI (b)), lk_vi (nI (w))] σ τ (fun rr σ1 τ1 => rr = some (lk_vi (lk_fnum (σ f) b w)) ∧ σ1 = σ ∧ τ1 = τ) := by
  refine lk_met (L := [(0, lk_vr f 0), (1, lk_vi (nI (b))), (2, lk_vi (nI (w)))]) (by decide +kernel) (Nat.le_of_ble_eq_true rfl) rfl ?_
  obtain ⟨Q, hQ⟩ : ∃ Q : lk_Q, Q = fun rr σ1 τ1 => rr = some (lk_vi (lk_fnum (σ f) b w)) ∧ σ1 = σ ∧ τ1 = τ := ⟨_, rfl⟩
  rw [← hQ]
  refine lk_iload_n dX2_number_0 rfl rfl ?_
  rcases (show w = 0 ∨ w = 1 ∨ w = 2 ∨ w = 3 ∨ (3 < w) by omega) with rfl | rfl | rfl | rfl | hh1
  ·
    refine lk_tableIn (off := 31) (tgt := 32) dX2_number_1 (by decide) (by decide) rfl (by decide) ?_
    refine lk_aload_n dX2_number_32 rfl rfl ?_
    refine lk_getR (f := 1) dX2_number_33 hf fX2_15 (by decide) (by decide) ?_
    refine lk_iload_n dX2_number_36 rfl rfl ?_
    refine lk_ialdN (f := 1) (i := b) dX2_number_37 hf (by decide) rfl (by omega) (by decide) ?_
    refine lk_iret .int dX2_number_38 rfl rfl ?_
    rw [hQ]
    first | exact ⟨rfl, rfl, rfl⟩ | (refine ⟨?_, rfl, rfl⟩; simp [lk_fnum, *]; done) | (have hw4 : w = 4 := (by omega); subst hw4; exact ⟨rfl, rfl, rfl⟩)
  ·
    refine lk_tableIn (off := 38) (tgt := 39) dX2_number_1 (by decide) (by decide) rfl (by decide) ?_
    refine lk_aload_n dX2_number_39 rfl rfl ?_
    refine lk_getR (f := 2) dX2_number_40 hf fX2_18 (by decide) (by decide) ?_
    refine lk_iload_n dX2_number_43 rfl rfl ?_
    refine lk_ialdN (f := 2) (i := b) dX2_number_44 hf (by decide) rfl (by omega) (by decide) ?_
    refine lk_iret .int dX2_number_45 rfl rfl ?_
    rw [hQ]
    first | exact ⟨rfl, rfl, rfl⟩ | (refine ⟨?_, rfl, rfl⟩; simp [lk_fnum, *]; done) | (have hw4 : w = 4 := (by omega); subst hw4; exact ⟨rfl, rfl, rfl⟩)
  ·
    refine lk_tableIn (off := 45) (tgt := 46) dX2_number_1 (by decide) (by decide) rfl (by decide) ?_
    refine lk_aload_n dX2_number_46 rfl rfl ?_
    refine lk_getR (f := 3) dX2_number_47 hf fX2_21 (by decide) (by decide) ?_
    refine lk_iload_n dX2_number_50 rfl rfl ?_
    refine lk_zaldN (f := 3) (i := b) dX2_number_51 hf (by decide) rfl (by omega) (by decide) ?_
    refine lk_if_eq (tgt := 59) dX2_number_52 (by decide) (fun hh2 => ?_) (fun hh2 => ?_)
    ·
      refine lk_iconst (v := 0) dX2_number_59 (by decide) ?_
      refine lk_iret .int dX2_number_60 rfl rfl ?_
      rw [hQ]
      first | exact ⟨rfl, rfl, rfl⟩ | (refine ⟨?_, rfl, rfl⟩; simp [lk_fnum, *]; done) | (have hw4 : w = 4 := (by omega); subst hw4; exact ⟨rfl, rfl, rfl⟩)
    ·
      refine lk_iconst (v := 1) dX2_number_55 (by decide) ?_
      refine lk_goto (tgt := 60) dX2_number_56 (by decide) ?_
      refine lk_iret .int dX2_number_60 rfl rfl ?_
      rw [hQ]
      first | exact ⟨rfl, rfl, rfl⟩ | (refine ⟨?_, rfl, rfl⟩; simp [lk_fnum, *]; done) | (have hw4 : w = 4 := (by omega); subst hw4; exact ⟨rfl, rfl, rfl⟩)
  ·
    refine lk_tableIn (off := 60) (tgt := 61) dX2_number_1 (by decide) (by decide) rfl (by decide) ?_
    refine lk_aload_n dX2_number_61 rfl rfl ?_
    refine lk_getR (f := 4) dX2_number_62 hf fX2_25 (by decide) (by decide) ?_
    refine lk_iload_n dX2_number_65 rfl rfl ?_
    refine lk_ialdN (f := 4) (i := b) dX2_number_66 hf (by decide) rfl (by omega) (by decide) ?_
    refine lk_iret .int dX2_number_67 rfl rfl ?_
    rw [hQ]
    first | exact ⟨rfl, rfl, rfl⟩ | (refine ⟨?_, rfl, rfl⟩; simp [lk_fnum, *]; done) | (have hw4 : w = 4 := (by omega); subst hw4; exact ⟨rfl, rfl, rfl⟩)
  ·
    refine lk_tableOut (tgt := 68) dX2_number_1 (by rw [nI_toInt (by omega)]; omega) (by decide) ?_
    refine lk_aload_n dX2_number_68 rfl rfl ?_
    refine lk_iload_n dX2_number_69 rfl rfl ?_
    refine lk_callV (o := f) (as := [lk_vi (nI (b))]) (S := []) dX2_number_70 rfl vX2_letterCount rfl lX2_63 hf rfl (Nat.le_of_ble_eq_true rfl) (tX2_letterCount l X d σ τ (f := f) (b := (b)) (hf := hf) (n := n) (hn := hn) (hb := hb) (hn22 := hn22)) ?_
    refine lk_k3 ?_
    refine lk_cast (pc' := 73) (S' := [lk_vi (nI (lk_lcn (σ f 0 (b)) 4 0))]) rfl rfl rfl ?_
    refine lk_iret .int dX2_number_73 rfl rfl ?_
    rw [hQ]
    first | exact ⟨rfl, rfl, rfl⟩ | (refine ⟨?_, rfl, rfl⟩; simp [lk_fnum, *]; done) | (have hw4 : w = 4 := (by omega); subst hw4; exact ⟨rfl, rfl, rfl⟩)
