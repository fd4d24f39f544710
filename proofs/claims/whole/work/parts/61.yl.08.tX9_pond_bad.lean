set_option maxHeartbeats 1000000 in
set_option maxRecDepth 100000 in
theorem tX9_pond_bad (l : Launch) (X : lk_G) (d : Nat) (σ : lk_N) (τ : lk_T) (u e m : Int32) (h : ¬ (((0 ≤ u ∧ u ≤ 4) ∧ (0 ≤ e ∧ e ≤ 4)) ∧ 1 ≤ m ∧ m ≤ 20)) : lk_Mt l X mX9_pond (d + 7) [lk_vr 1 0, lk_vi (u), lk_vi (e), lk_vi (m)] σ τ (fun rr σ1 τ1 => rr = some (lk_vi (-1)) ∧ σ1 = σ ∧ τ1 = τ) := by
  refine lk_met (L := [(0, lk_vr 1 0), (1, lk_vi (u)), (2, lk_vi (e)), (3, lk_vi (m))]) (by decide +kernel) (Nat.le_of_ble_eq_true rfl) rfl ?_
  obtain ⟨Q, hQ⟩ : ∃ Q : lk_Q, Q = fun rr σ1 τ1 => rr = some (lk_vi (-1)) ∧ σ1 = σ ∧ τ1 = τ := ⟨_, rfl⟩
  rw [← hQ]
  refine lk_iload_n dX9_pond_0 rfl rfl ?_
  refine lk_iload_n dX9_pond_1 rfl rfl ?_
  refine lk_callS (as := [lk_vi (u), lk_vi (e)]) (S := []) dX9_pond_2 rfl vX9_isTraffic rfl lX9_219 (Nat.le_of_ble_eq_true rfl) (tX9_isTraffic l X (d + 5) σ τ (u := (u)) (e := (e)) ) ?_
  refine lk_k3 ?_
  refine lk_cast (pc' := 5) (S' := [lk_vi (if (0 ≤ (u) ∧ (u) ≤ 4) ∧ (0 ≤ (e) ∧ (e) ≤ 4) then 1 else 0)]) rfl rfl rfl ?_
  refine lk_if_eqB (tgt := 18) dX9_pond_5 (by decide) (fun hh1 => ?_) (fun hh1 => ?_)
  ·
    refine lk_iconst (v := (-1)) dX9_pond_18 (by decide) ?_
    refine lk_iret .int dX9_pond_19 rfl rfl ?_
    rw [hQ]
    exact ⟨by first | rfl | (simp [*]; done) | (simp_all; done) | grind, by first | rfl | (simp [*]; done), rfl⟩
  ·
    refine lk_iload_n dX9_pond_8 rfl rfl ?_
    refine lk_iconst (v := 1) dX9_pond_9 (by decide) ?_
    refine lk_bipush (v := 20) dX9_pond_10 (by decide) ?_
    refine lk_callS (as := [lk_vi (m), lk_vi 1, lk_vi 20]) (S := []) dX9_pond_12 rfl vX9_within rfl lX9_46 (Nat.le_of_ble_eq_true rfl) (tX9_within l X (d + 6) σ τ (v := (m)) (a := (1 : Int32)) (b := (20 : Int32)) ) ?_
    refine lk_k3 ?_
    refine lk_cast (pc' := 15) (S' := [lk_vi (if (1 : Int32) ≤ (m) ∧ (m) ≤ (20 : Int32) then 1 else 0)]) rfl rfl rfl ?_
    refine lk_if_neB (tgt := 20) dX9_pond_15 (by decide) (fun hh2 => ?_) (fun hh2 => ?_)
    ·
      exact absurd ⟨by assumption, by assumption⟩ h
    ·
      refine lk_iconst (v := (-1)) dX9_pond_18 (by decide) ?_
      refine lk_iret .int dX9_pond_19 rfl rfl ?_
      rw [hQ]
      exact ⟨by first | rfl | (simp [*]; done) | (simp_all; done) | grind, by first | rfl | (simp [*]; done), rfl⟩
