set_option maxHeartbeats 1000000 in
set_option maxRecDepth 100000 in
theorem tX9_day_bad (l : Launch) (X : lk_G) (d : Nat) (σ : lk_N) (τ : lk_T) (u e : Int32) (h : ¬ ((0 ≤ u ∧ u ≤ 4) ∧ (0 ≤ e ∧ e ≤ 4))) : lk_Mt l X mX9_day (d + 6) [lk_vr 1 0, lk_vi (u), lk_vi (e)] σ τ (fun rr σ1 τ1 => rr = some (lk_vi (-1)) ∧ σ1 = σ ∧ τ1 = τ) := by
  refine lk_met (L := [(0, lk_vr 1 0), (1, lk_vi (u)), (2, lk_vi (e))]) (by decide +kernel) (Nat.le_of_ble_eq_true rfl) rfl ?_
  obtain ⟨Q, hQ⟩ : ∃ Q : lk_Q, Q = fun rr σ1 τ1 => rr = some (lk_vi (-1)) ∧ σ1 = σ ∧ τ1 = τ := ⟨_, rfl⟩
  rw [← hQ]
  refine lk_iload_n dX9_day_0 rfl rfl ?_
  refine lk_iload_n dX9_day_1 rfl rfl ?_
  refine lk_callS (as := [lk_vi (u), lk_vi (e)]) (S := []) dX9_day_2 rfl vX9_isTraffic rfl lX9_219 (Nat.le_of_ble_eq_true rfl) (tX9_isTraffic l X (d + 4) σ τ (u := (u)) (e := (e)) ) ?_
  refine lk_k3 ?_
  refine lk_cast (pc' := 5) (S' := [lk_vi (if (0 ≤ (u) ∧ (u) ≤ 4) ∧ (0 ≤ (e) ∧ (e) ≤ 4) then 1 else 0)]) rfl rfl rfl ?_
  refine lk_if_neB (tgt := 10) dX9_day_5 (by decide) (fun hh1 => absurd hh1 h) (fun hh1 => ?_)
  refine lk_iconst (v := (-1)) dX9_day_8 (by decide) ?_
  refine lk_iret .int dX9_day_9 rfl rfl ?_
  rw [hQ]
  exact ⟨by first | rfl | (simp [*]; done) | (simp_all; done) | grind, by first | rfl | (simp [*]; done), rfl⟩
