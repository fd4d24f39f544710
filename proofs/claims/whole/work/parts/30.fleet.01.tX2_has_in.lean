set_option maxHeartbeats 1000000 in
set_option maxRecDepth 100000 in
theorem tX2_has_in (l : Launch) (X : lk_G) (d : Nat) (σ : lk_N) (τ : lk_T) (f : Nat) (hf : lk_ko f = 2) (n b : Nat) (hn : σ f 5 0 = nI n) (hb : b < n) (hn22 : n ≤ 22) : lk_Mt l X mX2_has d [lk_vr f 0, lk_vi (nI (b))] σ τ (fun rr σ1 τ1 => rr = some (lk_vi 1) ∧ σ1 = σ ∧ τ1 = τ) := by
  refine lk_met (L := [(0, lk_vr f 0), (1, lk_vi (nI (b)))]) (by decide +kernel) (Nat.le_of_ble_eq_true rfl) rfl ?_
  obtain ⟨Q, hQ⟩ : ∃ Q : lk_Q, Q = fun rr σ1 τ1 => rr = some (lk_vi 1) ∧ σ1 = σ ∧ τ1 = τ := ⟨_, rfl⟩
  rw [← hQ]
  refine lk_iload_n dX2_has_0 rfl rfl ?_
  refine lk_if_ltN (a := b) (tgt := 16) dX2_has_1 (by decide) (by omega) (fun hh1 => absurd hh1 (by omega)) (fun hh1 => ?_)
  refine lk_iload_n dX2_has_4 rfl rfl ?_
  refine lk_aload_n dX2_has_5 rfl rfl ?_
  refine lk_getIv (v := nI (n)) (f := 5) dX2_has_6 hf fX2_28 (by decide) (by decide) hn ?_
  refine lk_icmp_geN (a := b) (b := n) (tgt := 16) dX2_has_9 (by decide) (by omega) (by omega) (fun hh2 => absurd hh2 (by omega)) (fun hh2 => ?_)
  refine lk_iconst (v := 1) dX2_has_12 (by decide) ?_
  refine lk_goto (tgt := 17) dX2_has_13 (by decide) ?_
  refine lk_iret .boolean dX2_has_17 rfl rfl ?_
  rw [hQ]
  exact ⟨by first | rfl | (simp [*]; done) | (simp_all; done) | grind, by first | rfl | (simp [*]; done), rfl⟩
