set_option maxHeartbeats 1000000 in
set_option maxRecDepth 100000 in
theorem tX9_pass_bar_up (l : Launch) (X : lk_G) (d : Nat) (σ : lk_N) (τ : lk_T) (V T : lk_O) (nf b : Nat) (hn : σ 1 0 114 = nI nf) (hb : b < nf) (hn12 : nf ≤ 12) (n k : Nat) (z : Int32) (hV : lk_cok V n) (hr : lk_rok V) (hk : k < n) (hu : σ 1 0 (90 + b) = 1) (hre : σ 1 0 (102 + b) = nI k) (hs : σ 1 0 (66 + b) = z) (hz : 0 ≤ z.toInt) (hz9 : z.toInt ≤ 9) (q : Int32 × Nat × Int32) (h : lk_pas V k true z = .inr q) : lk_Mt l X mX9_pass (d + 5) [lk_vr 1 0, lk_vi (nI (b))] (lk_ms σ V T) τ (fun rr σ1 τ1 => rr = some (lk_vi (-2000002)) ∧ τ1 = τ ∧ ∃ s : Int32, σ1 = lk_ms (lk_cau (lk_up (lk_bar σ q) 1 6 0 s) k q) V T) := by
  refine lk_met (L := [(0, lk_vr 1 0), (1, lk_vi (nI (b)))]) (by decide +kernel) (Nat.le_of_ble_eq_true rfl) rfl ?_
  obtain ⟨Q, hQ⟩ : ∃ Q : lk_Q, Q = fun rr σ1 τ1 => rr = some (lk_vi (-2000002)) ∧ τ1 = τ ∧ ∃ s : Int32, σ1 = lk_ms (lk_cau (lk_up (lk_bar σ q) 1 6 0 s) k q) V T := ⟨_, rfl⟩
  rw [← hQ]
  have hb12 : b < 12 := by omega
  refine lk_aload_n dX9_pass_0 rfl rfl ?_
  refine lk_iload_n dX9_pass_1 rfl rfl ?_
  refine lk_callV (o := 1) (as := [lk_vi (nI (b))]) (S := []) dX9_pass_2 rfl vX9_isBoat rfl lX9_112 rfl rfl (Nat.le_of_ble_eq_true rfl) (tX9_isBoat l X (d + 3) (lk_ms σ V T) τ (k := (nI (b))) ) ?_
  refine lk_k3 ?_
  refine lk_cast (pc' := 5) (S' := [lk_vi (if (0 : Int32) ≤ (nI (b)) ∧ (nI (b)) ≤ (lk_ms σ V T) 1 0 114 - 1 then 1 else 0)]) rfl rfl rfl ?_
  refine lk_if_neB (tgt := 11) dX9_pass_5 (by decide) (fun hh1 => ?_) (fun hh1 => absurd hh1 (fun q => q (by rw [lk_rB (by decide)]; exact lk_isb hn hb hn12)))
  refine lk_aload_n dX9_pass_11 rfl rfl ?_
  refine lk_iload_n dX9_pass_12 rfl rfl ?_
  refine lk_callV (o := 1) (as := [lk_vi (nI (b))]) (S := []) dX9_pass_13 rfl vX9_lockOf rfl lX9_151 rfl rfl (Nat.le_of_ble_eq_true rfl) (tX9_lockOf_up l X (d + 2) σ τ (b := (b)) (V := V) (T := T) (hb := hb12) (n := n) (k := k) (hV := hV) (hk := hk) (hu := hu) (hr := hre)) ?_
  refine lk_k3 ?_
  refine lk_cast (pc' := 16) (S' := [lk_vi (nI (k))]) rfl rfl rfl ?_
  refine lk_bipush (v := (-2)) dX9_pass_16 (by decide) ?_
  refine lk_icmp_ne (tgt := 24) dX9_pass_18 (by decide) (fun hh2 => ?_) (fun hh2 => absurd hh2 (lk_nim2 (by have := hV.2.2.1; omega)))
  refine lk_aload_n dX9_pass_24 rfl rfl ?_
  refine lk_iload_n dX9_pass_25 rfl rfl ?_
  refine lk_iconst (v := 1) dX9_pass_26 (by decide) ?_
  refine lk_callV (o := 1) (as := [lk_vi (nI (b)), lk_vi 1]) (S := []) dX9_pass_27 rfl vX9_boatGoes rfl lX9_159 rfl rfl (Nat.le_of_ble_eq_true rfl) (tX9_boatGoes_up1_no l X d σ τ (b := (b)) (V := V) (T := T) (hb := hb12) (n := n) (k := k) (z := z) (hV := hV) (hr := hr) (hk := hk) (hu := hu) (hre := hre) (hs := hs) (hz := hz) (hz9 := hz9) (q := q) (h := h)) ?_
  refine lk_k5 (fun s1 => ?_)
  refine lk_cast (pc' := 30) (S' := [lk_vi 0]) rfl rfl rfl ?_
  refine lk_sg (σ' := (lk_ms (lk_cau (lk_up (lk_bar σ q) 1 6 0 s1) k q) V T)) rfl ?_
  refine lk_if_eq (tgt := 40) dX9_pass_30 (by decide) (fun hh3 => ?_) (fun hh3 => absurd hh3 (by decide))
  refine lk_ldc dX9_pass_40 kX9_163 ?_
  refine lk_iret .int dX9_pass_42 rfl rfl ?_
  rw [hQ]
  exact ⟨rfl, rfl, s1, rfl⟩
