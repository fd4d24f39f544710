set_option maxHeartbeats 4000000 in
set_option maxRecDepth 100000 in
theorem tX1_number (l : Launch) (X : lk_G) (d : Nat) (σ : lk_N) (τ : lk_T) (q : Nat) (hq : lk_ko q = 1) (i : Nat) (hi : i ≤ 3) : lk_Mt l X mX1_number d [lk_vr q 0, lk_vi (nI (i))] σ τ (fun rr σ1 τ1 => rr = some (lk_vi (lk_cnum (σ q) i)) ∧ σ1 = σ ∧ τ1 = τ) := by
  refine lk_met (L := [(0, lk_vr q 0), (1, lk_vi (nI (i)))]) (by decide +kernel) (Nat.le_of_ble_eq_true rfl) rfl ?_
  obtain ⟨Q, hQ⟩ : ∃ Q : lk_Q, Q = fun rr σ1 τ1 => rr = some (lk_vi (lk_cnum (σ q) i)) ∧ σ1 = σ ∧ τ1 = τ := ⟨_, rfl⟩
  rw [← hQ]
  refine lk_aload_n dX1_number_0 rfl rfl ?_
  refine lk_getI (f := 0) dX1_number_1 hq fX1_9 (by decide) (by decide) ?_
  refine lk_if_ne (tgt := 10) dX1_number_4 (by decide) (fun hh1 => ?_) (fun hh1 => ?_)
  ·
    refine lk_iload_n dX1_number_10 rfl rfl ?_
    rcases (show i = 0 ∨ i = 1 ∨ i = 2 ∨ (2 < i) by omega) with rfl | rfl | rfl | hh2
    ·
      refine lk_tableIn (off := 25) (tgt := 36) dX1_number_11 (by decide) (by decide) rfl (by decide) ?_
      refine lk_aload_n dX1_number_36 rfl rfl ?_
      refine lk_getI (f := 1) dX1_number_37 hq fX1_15 (by decide) (by decide) ?_
      refine lk_iret .int dX1_number_40 rfl rfl ?_
      rw [hQ]
      first | (refine ⟨?_, rfl, rfl⟩; simp [lk_cnum, *]; done) | (have hi3 : i = 3 := (by omega); subst hi3; refine ⟨?_, rfl, rfl⟩; simp [lk_cnum, *]; done)
    ·
      refine lk_tableIn (off := 30) (tgt := 41) dX1_number_11 (by decide) (by decide) rfl (by decide) ?_
      refine lk_aload_n dX1_number_41 rfl rfl ?_
      refine lk_getI (f := 2) dX1_number_42 hq fX1_19 (by decide) (by decide) ?_
      refine lk_iret .int dX1_number_45 rfl rfl ?_
      rw [hQ]
      first | (refine ⟨?_, rfl, rfl⟩; simp [lk_cnum, *]; done) | (have hi3 : i = 3 := (by omega); subst hi3; refine ⟨?_, rfl, rfl⟩; simp [lk_cnum, *]; done)
    ·
      refine lk_tableIn (off := 35) (tgt := 46) dX1_number_11 (by decide) (by decide) rfl (by decide) ?_
      refine lk_aload_n dX1_number_46 rfl rfl ?_
      refine lk_getI (f := 3) dX1_number_47 hq fX1_22 (by decide) (by decide) ?_
      refine lk_iret .int dX1_number_50 rfl rfl ?_
      rw [hQ]
      first | (refine ⟨?_, rfl, rfl⟩; simp [lk_cnum, *]; done) | (have hi3 : i = 3 := (by omega); subst hi3; refine ⟨?_, rfl, rfl⟩; simp [lk_cnum, *]; done)
    ·
      refine lk_tableOut (tgt := 51) dX1_number_11 (by rw [nI_toInt (by omega)]; omega) (by decide) ?_
      refine lk_aload_n dX1_number_51 rfl rfl ?_
      refine lk_getI (f := 4) dX1_number_52 hq fX1_25 (by decide) (by decide) ?_
      refine lk_iret .int dX1_number_55 rfl rfl ?_
      rw [hQ]
      first | (refine ⟨?_, rfl, rfl⟩; simp [lk_cnum, *]; done) | (have hi3 : i = 3 := (by omega); subst hi3; refine ⟨?_, rfl, rfl⟩; simp [lk_cnum, *]; done)
  ·
    refine lk_bipush (v := (-2)) dX1_number_7 (by decide) ?_
    refine lk_iret .int dX1_number_9 rfl rfl ?_
    rw [hQ]
    first | (refine ⟨?_, rfl, rfl⟩; simp [lk_cnum, *]; done) | (have hi3 : i = 3 := (by omega); subst hi3; refine ⟨?_, rfl, rfl⟩; simp [lk_cnum, *]; done)
