set_option maxHeartbeats 1000000 in
set_option maxRecDepth 100000 in
theorem tX3_boatAt_in (l : Launch) (X : lk_G) (d : Nat) (σ : lk_N) (τ : lk_T) (g : Nat) (hg : lk_ko g = 3) (c i x : Nat) (hc : σ g 1 0 = nI c) (hi : i < c) (hc22 : c ≤ 22) (hx : σ g 0 i = nI x) : lk_Mt l X mX3_boatAt d [lk_vr g 0, lk_vi (nI (i))] σ τ (fun rr σ1 τ1 => rr = some (lk_vi (nI (x))) ∧ σ1 = σ ∧ τ1 = τ) := by
  refine lk_met (L := [(0, lk_vr g 0), (1, lk_vi (nI (i)))]) (by decide +kernel) (Nat.le_of_ble_eq_true rfl) rfl ?_
  obtain ⟨Q, hQ⟩ : ∃ Q : lk_Q, Q = fun rr σ1 τ1 => rr = some (lk_vi (nI (x))) ∧ σ1 = σ ∧ τ1 = τ := ⟨_, rfl⟩
  rw [← hQ]
  refine lk_iload_n dX3_boatAt_0 rfl rfl ?_
  refine lk_if_ltN (a := i) (tgt := 21) dX3_boatAt_1 (by decide) (by omega) (fun hh1 => absurd hh1 (by omega)) (fun hh1 => ?_)
  refine lk_iload_n dX3_boatAt_4 rfl rfl ?_
  refine lk_aload_n dX3_boatAt_5 rfl rfl ?_
  refine lk_getIv (v := nI (c)) (f := 1) dX3_boatAt_6 hg fX3_17 (by decide) (by decide) hc ?_
  refine lk_icmp_geN (a := i) (b := c) (tgt := 21) dX3_boatAt_9 (by decide) (by omega) (by omega) (fun hh2 => absurd hh2 (by omega)) (fun hh2 => ?_)
  refine lk_aload_n dX3_boatAt_12 rfl rfl ?_
  refine lk_getR (f := 0) dX3_boatAt_13 hg fX3_11 (by decide) (by decide) ?_
  refine lk_iload_n dX3_boatAt_16 rfl rfl ?_
  refine lk_ialdN (f := 0) (i := i) dX3_boatAt_17 hg (by decide) rfl (by omega) (by decide) ?_
  refine lk_eqtop (y := nI (x)) hx ?_
  refine lk_goto (tgt := 23) dX3_boatAt_18 (by decide) ?_
  refine lk_iret .int dX3_boatAt_23 rfl rfl ?_
  rw [hQ]
  exact ⟨by first | rfl | (simp [*]; done) | (simp_all; done) | grind, by first | rfl | (simp [*]; done), rfl⟩
