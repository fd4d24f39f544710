set_option maxHeartbeats 1000000 in
set_option maxRecDepth 100000 in
theorem tX3_boatAt_out (l : Launch) (X : lk_G) (d : Nat) (σ : lk_N) (τ : lk_T) (g : Nat) (hg : lk_ko g = 3) (i : Int32) (hi : i < 0 ∨ σ g 1 0 ≤ i) : lk_Mt l X mX3_boatAt d [lk_vr g 0, lk_vi (i)] σ τ (fun rr σ1 τ1 => rr = some (lk_vi (-2)) ∧ σ1 = σ ∧ τ1 = τ) := by
  refine lk_met (L := [(0, lk_vr g 0), (1, lk_vi (i))]) (by decide +kernel) (Nat.le_of_ble_eq_true rfl) rfl ?_
  obtain ⟨Q, hQ⟩ : ∃ Q : lk_Q, Q = fun rr σ1 τ1 => rr = some (lk_vi (-2)) ∧ σ1 = σ ∧ τ1 = τ := ⟨_, rfl⟩
  rw [← hQ]
  refine lk_iload_n dX3_boatAt_0 rfl rfl ?_
  refine lk_if_lt (tgt := 21) dX3_boatAt_1 (by decide) (fun hh1 => ?_) (fun hh1 => ?_)
  ·
    refine lk_bipush (v := (-2)) dX3_boatAt_21 (by decide) ?_
    refine lk_iret .int dX3_boatAt_23 rfl rfl ?_
    rw [hQ]
    first | exact ⟨rfl, rfl, rfl⟩ | (exfalso; simp_all [Int32.not_lt, Int32.not_le]; done)
  ·
    refine lk_iload_n dX3_boatAt_4 rfl rfl ?_
    refine lk_aload_n dX3_boatAt_5 rfl rfl ?_
    refine lk_getI (f := 1) dX3_boatAt_6 hg fX3_17 (by decide) (by decide) ?_
    refine lk_icmp_ge (tgt := 21) dX3_boatAt_9 (by decide) (fun hh2 => ?_) (fun hh2 => ?_)
    ·
      refine lk_bipush (v := (-2)) dX3_boatAt_21 (by decide) ?_
      refine lk_iret .int dX3_boatAt_23 rfl rfl ?_
      rw [hQ]
      first | exact ⟨rfl, rfl, rfl⟩ | (exfalso; simp_all [Int32.not_lt, Int32.not_le]; done)
    ·
      refine lk_aload_n dX3_boatAt_12 rfl rfl ?_
      refine lk_getR (f := 0) dX3_boatAt_13 hg fX3_11 (by decide) (by decide) ?_
      refine lk_iload_n dX3_boatAt_16 rfl rfl ?_
      refine lk_iald (f := 0) dX3_boatAt_17 hg (by decide) rfl (by assumption) ?_
      refine lk_goto (tgt := 23) dX3_boatAt_18 (by decide) ?_
      refine lk_iret .int dX3_boatAt_23 rfl rfl ?_
      rw [hQ]
      first | exact ⟨rfl, rfl, rfl⟩ | (exfalso; simp_all [Int32.not_lt, Int32.not_le]; done)
