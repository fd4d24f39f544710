set_option maxHeartbeats 1000000 in
set_option maxRecDepth 100000 in
theorem tX4_done (l : Launch) (X : lk_G) (d : Nat) (σ : lk_N) (τ : lk_T) (y : Nat) (hy : lk_ko y = 4) (i j : Nat) (hi : σ y 0 0 = nI i) (hj : σ y 1 0 = nI j) : lk_Mt l X mX4_done d [lk_vr y 0] σ τ (fun rr σ1 τ1 => rr = some (lk_vi (nI (i + j))) ∧ σ1 = σ ∧ τ1 = τ) := by
  refine lk_met (L := [(0, lk_vr y 0)]) (by decide +kernel) (Nat.le_of_ble_eq_true rfl) rfl ?_
  obtain ⟨Q, hQ⟩ : ∃ Q : lk_Q, Q = fun rr σ1 τ1 => rr = some (lk_vi (nI (i + j))) ∧ σ1 = σ ∧ τ1 = τ := ⟨_, rfl⟩
  rw [← hQ]
  refine lk_aload_n dX4_done_0 rfl rfl ?_
  refine lk_getIv (v := nI (i)) (f := 0) dX4_done_1 hy fX4_9 (by decide) (by decide) hi ?_
  refine lk_aload_n dX4_done_4 rfl rfl ?_
  refine lk_getIv (v := nI (j)) (f := 1) dX4_done_5 hy fX4_15 (by decide) (by decide) hj ?_
  refine lk_iaddN (a := i) (b := j) dX4_done_8 ?_
  refine lk_iret .int dX4_done_9 rfl rfl ?_
  rw [hQ]
  exact ⟨by first | rfl | (simp [*]; done) | (simp_all; done) | grind, by first | rfl | (simp [*]; done), rfl⟩
