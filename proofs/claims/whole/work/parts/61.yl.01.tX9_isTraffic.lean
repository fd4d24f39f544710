set_option maxHeartbeats 1000000 in
set_option maxRecDepth 100000 in
theorem tX9_isTraffic (l : Launch) (X : lk_G) (d : Nat) (σ : lk_N) (τ : lk_T) (u e : Int32) : lk_Mt l X mX9_isTraffic (d + 1) [lk_vi (u), lk_vi (e)] σ τ (fun rr σ1 τ1 => rr = some (lk_vi (if (0 ≤ u ∧ u ≤ 4) ∧ (0 ≤ e ∧ e ≤ 4) then 1 else 0)) ∧ σ1 = σ ∧ τ1 = τ) := by
  refine lk_met (L := [(0, lk_vi (u)), (1, lk_vi (e))]) (by decide +kernel) (Nat.le_of_ble_eq_true rfl) rfl ?_
  obtain ⟨Q, hQ⟩ : ∃ Q : lk_Q, Q = fun rr σ1 τ1 => rr = some (lk_vi (if (0 ≤ u ∧ u ≤ 4) ∧ (0 ≤ e ∧ e ≤ 4) then 1 else 0)) ∧ σ1 = σ ∧ τ1 = τ := ⟨_, rfl⟩
  rw [← hQ]
  refine lk_iload_n dX9_isTraffic_0 rfl rfl ?_
  refine lk_iconst (v := 0) dX9_isTraffic_1 (by decide) ?_
  refine lk_iconst (v := 4) dX9_isTraffic_2 (by decide) ?_
  refine lk_callS (as := [lk_vi (u), lk_vi 0, lk_vi 4]) (S := []) dX9_isTraffic_3 rfl vX9_within rfl lX9_46 (Nat.le_of_ble_eq_true rfl) (tX9_within l X d σ τ (v := (u)) (a := (0 : Int32)) (b := (4 : Int32)) ) ?_
  refine lk_k3 ?_
  refine lk_cast (pc' := 6) (S' := [lk_vi (if (0 : Int32) ≤ (u) ∧ (u) ≤ (4 : Int32) then 1 else 0)]) rfl rfl rfl ?_
  refine lk_if_eqB (tgt := 22) dX9_isTraffic_6 (by decide) (fun hh1 => ?_) (fun hh1 => ?_)
  ·
    refine lk_iconst (v := 0) dX9_isTraffic_22 (by decide) ?_
    refine lk_iret .boolean dX9_isTraffic_23 rfl rfl ?_
    rw [hQ]
    exact ⟨by first | rfl | (simp [*]; done) | (simp_all; done) | grind, by first | rfl | (simp [*]; done), rfl⟩
  ·
    refine lk_iload_n dX9_isTraffic_9 rfl rfl ?_
    refine lk_iconst (v := 0) dX9_isTraffic_10 (by decide) ?_
    refine lk_iconst (v := 4) dX9_isTraffic_11 (by decide) ?_
    refine lk_callS (as := [lk_vi (e), lk_vi 0, lk_vi 4]) (S := []) dX9_isTraffic_12 rfl vX9_within rfl lX9_46 (Nat.le_of_ble_eq_true rfl) (tX9_within l X d σ τ (v := (e)) (a := (0 : Int32)) (b := (4 : Int32)) ) ?_
    refine lk_k3 ?_
    refine lk_cast (pc' := 15) (S' := [lk_vi (if (0 : Int32) ≤ (e) ∧ (e) ≤ (4 : Int32) then 1 else 0)]) rfl rfl rfl ?_
    refine lk_if_eqB (tgt := 22) dX9_isTraffic_15 (by decide) (fun hh2 => ?_) (fun hh2 => ?_)
    ·
      refine lk_iconst (v := 0) dX9_isTraffic_22 (by decide) ?_
      refine lk_iret .boolean dX9_isTraffic_23 rfl rfl ?_
      rw [hQ]
      exact ⟨by first | rfl | (simp [*]; done) | (simp_all; done) | grind, by first | rfl | (simp [*]; done), rfl⟩
    ·
      refine lk_iconst (v := 1) dX9_isTraffic_18 (by decide) ?_
      refine lk_goto (tgt := 23) dX9_isTraffic_19 (by decide) ?_
      refine lk_iret .boolean dX9_isTraffic_23 rfl rfl ?_
      rw [hQ]
      exact ⟨by first | rfl | (simp [*]; done) | (simp_all; done) | grind, by first | rfl | (simp [*]; done), rfl⟩
