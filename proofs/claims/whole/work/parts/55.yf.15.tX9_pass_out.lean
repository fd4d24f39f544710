set_option maxHeartbeats 1000000 in
set_option maxRecDepth 100000 in
theorem tX9_pass_out (l : Launch) (X : lk_G) (d : Nat) (σ : lk_N) (τ : lk_T) (V T : lk_O) (b : Int32) (h : ¬ ((0 : Int32) ≤ b ∧ b ≤ σ 1 0 114 - 1)) : lk_Mt l X mX9_pass (d + 5) [lk_vr 1 0, lk_vi (b)] (lk_ms σ V T) τ (fun rr σ1 τ1 => rr = some (lk_vi (-2000000)) ∧ σ1 = (lk_ms σ V T) ∧ τ1 = τ) := by
  refine lk_met (L := [(0, lk_vr 1 0), (1, lk_vi (b))]) (by decide +kernel) (Nat.le_of_ble_eq_true rfl) rfl ?_
  obtain ⟨Q, hQ⟩ : ∃ Q : lk_Q, Q = fun rr σ1 τ1 => rr = some (lk_vi (-2000000)) ∧ σ1 = (lk_ms σ V T) ∧ τ1 = τ := ⟨_, rfl⟩
  rw [← hQ]
  refine lk_aload_n dX9_pass_0 rfl rfl ?_
  refine lk_iload_n dX9_pass_1 rfl rfl ?_
  refine lk_callV (o := 1) (as := [lk_vi (b)]) (S := []) dX9_pass_2 rfl vX9_isBoat rfl lX9_112 rfl rfl (Nat.le_of_ble_eq_true rfl) (tX9_isBoat l X (d + 3) (lk_ms σ V T) τ (k := (b)) ) ?_
  refine lk_k3 ?_
  refine lk_cast (pc' := 5) (S' := [lk_vi (if (0 : Int32) ≤ (b) ∧ (b) ≤ (lk_ms σ V T) 1 0 114 - 1 then 1 else 0)]) rfl rfl rfl ?_
  refine lk_if_neB (tgt := 11) dX9_pass_5 (by decide) (fun hh1 => absurd hh1 (by rw [lk_rB (by decide)]; exact h)) (fun hh1 => ?_)
  refine lk_ldc dX9_pass_8 kX9_157 ?_
  refine lk_iret .int dX9_pass_10 rfl rfl ?_
  rw [hQ]
  exact ⟨by first | rfl | (simp [*]; done) | (simp_all; done) | grind, by first | rfl | (simp [*]; done), rfl⟩
