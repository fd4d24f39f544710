set_option maxHeartbeats 1000000 in
set_option maxRecDepth 100000 in
theorem tX9_lock_out (l : Launch) (X : lk_G) (d : Nat) (σ : lk_N) (τ : lk_T) (k : Int32) (hk : ¬ (0 ≤ k ∧ k ≤ σ 1 0 53 - 1)) (w v : Int32) : lk_Mt l X mX9_lock (d + 2) [lk_vr 1 0, lk_vi (k), lk_vi (w), lk_vi (v)] σ τ (fun rr σ1 τ1 => rr = some (lk_vi (-1)) ∧ σ1 = σ ∧ τ1 = τ) := by
  refine lk_met (L := [(0, lk_vr 1 0), (1, lk_vi (k)), (2, lk_vi (w)), (3, lk_vi (v))]) (by decide +kernel) (Nat.le_of_ble_eq_true rfl) rfl ?_
  obtain ⟨Q, hQ⟩ : ∃ Q : lk_Q, Q = fun rr σ1 τ1 => rr = some (lk_vi (-1)) ∧ σ1 = σ ∧ τ1 = τ := ⟨_, rfl⟩
  rw [← hQ]
  refine lk_aload_n dX9_lock_0 rfl rfl ?_
  refine lk_iload_n dX9_lock_1 rfl rfl ?_
  refine lk_callV (o := 1) (as := [lk_vi (k)]) (S := []) dX9_lock_2 rfl vX9_isLock rfl lX9_50 rfl rfl (Nat.le_of_ble_eq_true rfl) (tX9_isLock l X d σ τ (k := (k)) ) ?_
  refine lk_k3 ?_
  refine lk_cast (pc' := 5) (S' := [lk_vi (if (0 : Int32) ≤ (k) ∧ (k) ≤ σ 1 0 53 - 1 then 1 else 0)]) rfl rfl rfl ?_
  refine lk_if_eqB (tgt := 17) dX9_lock_5 (by decide) (fun hh1 => ?_) (fun hh1 => absurd hh1 hk)
  refine lk_iconst (v := (-1)) dX9_lock_17 (by decide) ?_
  refine lk_iret .int dX9_lock_18 rfl rfl ?_
  rw [hQ]
  exact ⟨by first | rfl | (simp [*]; done) | (simp_all; done) | grind, by first | rfl | (simp [*]; done), rfl⟩

set_option maxHeartbeats 1000000 in
set_option maxRecDepth 100000 in
theorem tX9_ofLock_out (l : Launch) (X : lk_G) (d : Nat) (σ : lk_N) (τ : lk_T) (k : Int32) (hk : ¬ (0 ≤ k ∧ k ≤ σ 1 0 53 - 1)) (w : Int32) : lk_Mt l X mX9_ofLock (d + 2) [lk_vr 1 0, lk_vi (k), lk_vi (w)] σ τ (fun rr σ1 τ1 => rr = some (lk_vi (-1)) ∧ σ1 = σ ∧ τ1 = τ) := by
  refine lk_met (L := [(0, lk_vr 1 0), (1, lk_vi (k)), (2, lk_vi (w))]) (by decide +kernel) (Nat.le_of_ble_eq_true rfl) rfl ?_
  obtain ⟨Q, hQ⟩ : ∃ Q : lk_Q, Q = fun rr σ1 τ1 => rr = some (lk_vi (-1)) ∧ σ1 = σ ∧ τ1 = τ := ⟨_, rfl⟩
  rw [← hQ]
  refine lk_aload_n dX9_ofLock_0 rfl rfl ?_
  refine lk_iload_n dX9_ofLock_1 rfl rfl ?_
  refine lk_callV (o := 1) (as := [lk_vi (k)]) (S := []) dX9_ofLock_2 rfl vX9_isLock rfl lX9_50 rfl rfl (Nat.le_of_ble_eq_true rfl) (tX9_isLock l X d σ τ (k := (k)) ) ?_
  refine lk_k3 ?_
  refine lk_cast (pc' := 5) (S' := [lk_vi (if (0 : Int32) ≤ (k) ∧ (k) ≤ σ 1 0 53 - 1 then 1 else 0)]) rfl rfl rfl ?_
  refine lk_if_eqB (tgt := 17) dX9_ofLock_5 (by decide) (fun hh1 => ?_) (fun hh1 => absurd hh1 hk)
  refine lk_iconst (v := (-1)) dX9_ofLock_17 (by decide) ?_
  refine lk_iret .int dX9_ofLock_18 rfl rfl ?_
  rw [hQ]
  exact ⟨by first | rfl | (simp [*]; done) | (simp_all; done) | grind, by first | rfl | (simp [*]; done), rfl⟩

set_option maxHeartbeats 1000000 in
set_option maxRecDepth 100000 in
theorem tX9_ofLock_bad (l : Launch) (X : lk_G) (d : Nat) (σ : lk_N) (τ : lk_T) (n k : Nat) (hn : σ 1 0 53 = nI n) (hk : k < n) (hn6 : n ≤ 6) (w : Int32) (h : ¬ (0 ≤ w ∧ w ≤ 4)) : lk_Mt l X mX9_ofLock (d + 2) [lk_vr 1 0, lk_vi (nI (k)), lk_vi (w)] σ τ (fun rr σ1 τ1 => rr = some (lk_vi (-1)) ∧ σ1 = σ ∧ τ1 = τ) := by
  refine lk_met (L := [(0, lk_vr 1 0), (1, lk_vi (nI (k))), (2, lk_vi (w))]) (by decide +kernel) (Nat.le_of_ble_eq_true rfl) rfl ?_
  obtain ⟨Q, hQ⟩ : ∃ Q : lk_Q, Q = fun rr σ1 τ1 => rr = some (lk_vi (-1)) ∧ σ1 = σ ∧ τ1 = τ := ⟨_, rfl⟩
  rw [← hQ]
  have hl : (0 : Int32) ≤ nI k ∧ nI k ≤ σ 1 0 53 - 1 := ⟨nI_pos' (by omega), by rw [hn, lk_sub1 (by omega) (by omega)]; exact nI_le (by omega) (by omega)⟩
  refine lk_aload_n dX9_ofLock_0 rfl rfl ?_
  refine lk_iload_n dX9_ofLock_1 rfl rfl ?_
  refine lk_callV (o := 1) (as := [lk_vi (nI (k))]) (S := []) dX9_ofLock_2 rfl vX9_isLock rfl lX9_50 rfl rfl (Nat.le_of_ble_eq_true rfl) (tX9_isLock l X d σ τ (k := (nI (k))) ) ?_
  refine lk_k3 ?_
  refine lk_cast (pc' := 5) (S' := [lk_vi (if (0 : Int32) ≤ (nI (k)) ∧ (nI (k)) ≤ σ 1 0 53 - 1 then 1 else 0)]) rfl rfl rfl ?_
  refine lk_if_eqB (tgt := 17) dX9_ofLock_5 (by decide) (fun hh1 => absurd hh1 (fun q => q hl)) (fun hh1 => ?_)
  refine lk_iload_n dX9_ofLock_8 rfl rfl ?_
  refine lk_iconst (v := 0) dX9_ofLock_9 (by decide) ?_
  refine lk_iconst (v := 4) dX9_ofLock_10 (by decide) ?_
  refine lk_callS (as := [lk_vi (w), lk_vi 0, lk_vi 4]) (S := []) dX9_ofLock_11 rfl vX9_within rfl lX9_46 (Nat.le_of_ble_eq_true rfl) (tX9_within l X (d + 1) σ τ (v := (w)) (a := 0) (b := 4) ) ?_
  refine lk_k3 ?_
  refine lk_cast (pc' := 14) (S' := [lk_vi (if 0 ≤ (w) ∧ (w) ≤ 4 then 1 else 0)]) rfl rfl rfl ?_
  refine lk_if_neB (tgt := 19) dX9_ofLock_14 (by decide) (fun hh2 => absurd hh2 h) (fun hh2 => ?_)
  refine lk_iconst (v := (-1)) dX9_ofLock_17 (by decide) ?_
  refine lk_iret .int dX9_ofLock_18 rfl rfl ?_
  rw [hQ]
  exact ⟨by first | rfl | (simp [*]; done) | (simp_all; done) | grind, by first | rfl | (simp [*]; done), rfl⟩
