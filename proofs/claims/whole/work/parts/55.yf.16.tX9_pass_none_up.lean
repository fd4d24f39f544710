set_option maxHeartbeats 1000000 in
set_option maxRecDepth 100000 in
theorem tX9_pass_none_up (l : Launch) (X : lk_G) (d : Nat) (σ : lk_N) (τ : lk_T) (V T : lk_O) (nf b : Nat) (hn : σ 1 0 114 = nI nf) (hb : b < nf) (hn12 : nf ≤ 12) (n : Nat) (hV : lk_cok V n) (hu : σ 1 0 (90 + b) = 1) (hre : σ 1 0 (102 + b) = nI n) : lk_Mt l X mX9_pass (d + 5) [lk_vr 1 0, lk_vi (nI (b))] (lk_ms σ V T) τ (fun rr σ1 τ1 => rr = some (lk_vi (-2000001)) ∧ σ1 = (lk_ms σ V T) ∧ τ1 = τ) := by
  refine lk_met (L := [(0, lk_vr 1 0), (1, lk_vi (nI (b)))]) (by decide +kernel) (Nat.le_of_ble_eq_true rfl) rfl ?_
  obtain ⟨Q, hQ⟩ : ∃ Q : lk_Q, Q = fun rr σ1 τ1 => rr = some (lk_vi (-2000001)) ∧ σ1 = (lk_ms σ V T) ∧ τ1 = τ := ⟨_, rfl⟩
  rw [← hQ]
  have hb12 : b < 12 := by omega
  refine lk_aload_n dX9_pass_0 rfl rfl ?_
  refine lk_iload_n dX9_pass_1 rfl rfl ?_
  refine lk_callV (o := 1) (as := [lk_vi (nI (b))]) (S := []) dX9_pass_2 rfl vX9_isBoat rfl lX9_112 rfl rfl (Nat.le_of_ble_eq_true rfl) (tX9_isBoat l X (d + 3) (lk_ms σ V T) τ (k := (nI (b))) ) ?_
  refine lk_k3 ?_
  refine lk_cast (pc' := 5) (S' := [lk_vi (if (0 : Int32) ≤ (nI (b)) ∧ (nI (b)) ≤ (lk_ms σ V T) 1 0 114 - 1 then 1 else 0)]) rfl rfl rfl ?_
  refine lk_if_neB (tgt := 11) dX9_pass_5 (by decide) (fun hh1 => ?_) (fun hh1 => absurd hh1 (fun q => q (by rw [lk_rB (by decide)]; exact lk_isb hn hb hn12)))
  refine lk_aload_n dX9_pass_11 rfl rfl ?_
  refine lk_iload_n dX9_pass_12 rfl rfl ?_
  refine lk_callV (o := 1) (as := [lk_vi (nI (b))]) (S := []) dX9_pass_13 rfl vX9_lockOf rfl lX9_151 rfl rfl (Nat.le_of_ble_eq_true rfl) (tX9_lockOf_up0 l X (d + 2) σ τ (b := (b)) (V := V) (T := T) (hb := hb12) (n := n) (hV := hV) (hu := hu) (hr := hre)) ?_
  refine lk_k3 ?_
  refine lk_cast (pc' := 16) (S' := [lk_vi (-2)]) rfl rfl rfl ?_
  refine lk_bipush (v := (-2)) dX9_pass_16 (by decide) ?_
  refine lk_icmp_ne (tgt := 24) dX9_pass_18 (by decide) (fun hh2 => absurd hh2 (by decide)) (fun hh2 => ?_)
  refine lk_ldc dX9_pass_21 kX9_158 ?_
  refine lk_iret .int dX9_pass_23 rfl rfl ?_
  rw [hQ]
  exact ⟨by first | rfl | (simp [*]; done) | (simp_all; done) | grind, by first | rfl | (simp [*]; done), rfl⟩
