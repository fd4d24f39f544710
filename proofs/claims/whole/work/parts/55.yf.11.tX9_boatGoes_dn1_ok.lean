set_option maxHeartbeats 1000000 in
set_option maxRecDepth 100000 in
theorem tX9_boatGoes_dn1_ok (l : Launch) (X : lk_G) (d : Nat) (σ : lk_N) (τ : lk_T) (V T : lk_O) (b : Nat) (hb : b < 12) (n k : Nat) (z : Int32) (hV : lk_cok V n) (hr : lk_rok V) (hk : k < n) (hu : σ 1 0 (90 + b) = 0) (hre : σ 1 0 (102 + b) = nI (k + 1)) (hs : σ 1 0 (66 + b) = z) (hz : 0 ≤ z.toInt) (hz9 : z.toInt ≤ 9) (W : lk_O) (h : lk_pas V k false z = .inl W) : lk_Mt l X mX9_boatGoes (d + 4) [lk_vr 1 0, lk_vi (nI (b)), lk_vi 1] (lk_ms σ V T) τ (fun rr σ1 τ1 => rr = some (lk_vi 1) ∧ σ1 = (lk_ms (lk_up (lk_up σ 1 6 0 (V 6 (k + 1) - W 6 (k + 1))) 1 0 (102 + b) (nI (k))) W (lk_tad T (V 6 (k + 1) - W 6 (k + 1)))) ∧ τ1 = τ) := by
  refine lk_met (L := [(0, lk_vr 1 0), (1, lk_vi (nI (b))), (2, lk_vi 1)]) (by decide +kernel) (Nat.le_of_ble_eq_true rfl) rfl ?_
  obtain ⟨Q, hQ⟩ : ∃ Q : lk_Q, Q = fun rr σ1 τ1 => rr = some (lk_vi 1) ∧ σ1 = (lk_ms (lk_up (lk_up σ 1 6 0 (V 6 (k + 1) - W 6 (k + 1))) 1 0 (102 + b) (nI (k))) W (lk_tad T (V 6 (k + 1) - W 6 (k + 1)))) ∧ τ1 = τ := ⟨_, rfl⟩
  rw [← hQ]
  refine lk_aload_n dX9_boatGoes_0 rfl rfl ?_
  refine lk_iload_n dX9_boatGoes_1 rfl rfl ?_
  refine lk_callV (o := 1) (as := [lk_vi (nI (b))]) (S := []) dX9_boatGoes_2 rfl vX9_lockOf rfl lX9_151 rfl rfl (Nat.le_of_ble_eq_true rfl) (tX9_lockOf_dn l X (d + 1) σ τ (b := (b)) (V := V) (T := T) (hb := hb) (n := n) (k := k) (hV := hV) (hk := hk) (hu := hu) (hr := hre)) ?_
  refine lk_k3 ?_
  refine lk_cast (pc' := 5) (S' := [lk_vi (nI (k))]) rfl rfl rfl ?_
  refine lk_istore_n (L' := [(0, lk_vr 1 0), (1, lk_vi (nI (b))), (2, lk_vi 1), (3, lk_vi (nI (k)))]) dX9_boatGoes_5 rfl (by decide +kernel) rfl ?_
  refine lk_aload_n dX9_boatGoes_6 rfl rfl ?_
  refine lk_iload_n dX9_boatGoes_7 rfl rfl ?_
  refine lk_callV (o := 1) (as := [lk_vi (nI (b))]) (S := []) dX9_boatGoes_8 rfl vX9_isUp rfl lX9_148 rfl rfl (Nat.le_of_ble_eq_true rfl) (tX9_isUp_0 l X (d + 3) σ τ (b := (b)) (V := V) (T := T) (hb := hb) (hu := hu)) ?_
  refine lk_k3 ?_
  refine lk_cast (pc' := 11) (S' := [lk_vi 0]) rfl rfl rfl ?_
  refine lk_istore (L' := [(0, lk_vr 1 0), (1, lk_vi (nI (b))), (2, lk_vi 1), (3, lk_vi (nI (k))), (4, lk_vi 0)]) dX9_boatGoes_11 (by decide +kernel) rfl ?_
  refine lk_iload_n dX9_boatGoes_13 rfl rfl ?_
  refine lk_if_eq (tgt := 39) dX9_boatGoes_14 (by decide) (fun hh1 => absurd hh1 (by decide)) (fun hh1 => ?_)
  refine lk_aload_n dX9_boatGoes_17 rfl rfl ?_
  refine lk_iload_n dX9_boatGoes_18 rfl rfl ?_
  refine lk_iload dX9_boatGoes_19 rfl ?_
  refine lk_aload_n dX9_boatGoes_21 rfl rfl ?_
  refine lk_getR (f := 0) dX9_boatGoes_22 rfl fX9_9 (by decide) (by decide) ?_
  refine lk_bipush (v := 66) dX9_boatGoes_25 (by decide) ?_
  refine lk_iload_n dX9_boatGoes_27 rfl rfl ?_
  refine lk_iaddN (a := 66) (b := b) dX9_boatGoes_28 ?_
  refine lk_ialdN (f := 0) (i := 66 + b) dX9_boatGoes_29 rfl (by decide) rfl (by omega) (by decide) ?_
  refine lk_eqtop (y := (z)) ((lk_rB (by omega)).trans hs) ?_
  refine lk_callV (o := 1) (as := [lk_vi (nI (k)), lk_vi 0, lk_vi (z)]) (S := []) dX9_boatGoes_30 rfl vX9_goesTruly rfl lX9_154 rfl rfl (Nat.le_of_ble_eq_true rfl) (tX9_truly_dn_ok l X d σ τ (k := (k)) (z := (z)) (V := V) (T := T) (n := n) (hV := hV) (hr := hr) (hk := hk) (hz := hz) (hz9 := hz9) (W := W) (h := h)) ?_
  refine lk_k3 ?_
  refine lk_cast (pc' := 33) (S' := [lk_vi 1]) rfl rfl rfl ?_
  refine lk_if_ne (tgt := 60) dX9_boatGoes_33 (by decide) (fun hh2 => ?_) (fun hh2 => absurd hh2 (by decide))
  refine lk_aload_n dX9_boatGoes_60 rfl rfl ?_
  refine lk_getR (f := 0) dX9_boatGoes_61 rfl fX9_9 (by decide) (by decide) ?_
  refine lk_bipush (v := 102) dX9_boatGoes_64 (by decide) ?_
  refine lk_iload_n dX9_boatGoes_66 rfl rfl ?_
  refine lk_iaddN (a := 102) (b := b) dX9_boatGoes_67 ?_
  refine lk_iload dX9_boatGoes_68 rfl ?_
  refine lk_if_eq (tgt := 79) dX9_boatGoes_70 (by decide) (fun hh3 => ?_) (fun hh3 => absurd hh3 (by decide))
  refine lk_iload_n dX9_boatGoes_79 rfl rfl ?_
  refine lk_iastN (f := 0) (i := 102 + b) (v := (nI (k))) dX9_boatGoes_80 rfl (by decide) rfl (by omega) (by decide) ?_
  refine lk_sg (σ' := (lk_ms (lk_up (lk_up σ 1 6 0 (V 6 ((k) + 1) - W 6 ((k) + 1))) 1 0 (102 + b) (nI (k))) W (lk_tad T (V 6 ((k) + 1) - W 6 ((k) + 1))))) (lk_wB (by omega)) ?_
  refine lk_iconst (v := 1) dX9_boatGoes_81 (by decide) ?_
  refine lk_iret .boolean dX9_boatGoes_82 rfl rfl ?_
  rw [hQ]
  exact ⟨by first | rfl | (simp [*]; done) | (simp_all; done) | grind, by first | rfl | (simp [*]; done), rfl⟩
