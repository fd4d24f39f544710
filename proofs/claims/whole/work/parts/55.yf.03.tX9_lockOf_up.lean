set_option maxHeartbeats 1000000 in
set_option maxRecDepth 100000 in
theorem tX9_lockOf_up (l : Launch) (X : lk_G) (d : Nat) (σ : lk_N) (τ : lk_T) (V T : lk_O) (b : Nat) (hb : b < 12) (hu : σ 1 0 (90 + b) = 1) (n k : Nat) (hV : lk_cok V n) (hk : k < n) (hr : σ 1 0 (102 + b) = nI k) : lk_Mt l X mX9_lockOf (d + 2) [lk_vr 1 0, lk_vi (nI (b))] (lk_ms σ V T) τ (fun rr σ1 τ1 => rr = some (lk_vi (nI (k))) ∧ σ1 = (lk_ms σ V T) ∧ τ1 = τ) := by
  refine lk_met (L := [(0, lk_vr 1 0), (1, lk_vi (nI (b)))]) (by decide +kernel) (Nat.le_of_ble_eq_true rfl) rfl ?_
  obtain ⟨Q, hQ⟩ : ∃ Q : lk_Q, Q = fun rr σ1 τ1 => rr = some (lk_vi (nI (k))) ∧ σ1 = (lk_ms σ V T) ∧ τ1 = τ := ⟨_, rfl⟩
  rw [← hQ]
  refine lk_aload_n dX9_lockOf_0 rfl rfl ?_
  refine lk_iload_n dX9_lockOf_1 rfl rfl ?_
  refine lk_callV (o := 1) (as := [lk_vi (nI (b))]) (S := []) dX9_lockOf_2 rfl vX9_isUp rfl lX9_148 rfl rfl (Nat.le_of_ble_eq_true rfl) (tX9_isUp_1 l X (d + 1) σ τ (b := (b)) (V := V) (T := T) (hb := hb) (hu := hu)) ?_
  refine lk_k3 ?_
  refine lk_cast (pc' := 5) (S' := [lk_vi 1]) rfl rfl rfl ?_
  refine lk_if_eq (tgt := 20) dX9_lockOf_5 (by decide) (fun hh1 => absurd hh1 (by decide)) (fun hh1 => ?_)
  refine lk_aload_n dX9_lockOf_8 rfl rfl ?_
  refine lk_getR (f := 0) dX9_lockOf_9 rfl fX9_9 (by decide) (by decide) ?_
  refine lk_bipush (v := 102) dX9_lockOf_12 (by decide) ?_
  refine lk_iload_n dX9_lockOf_14 rfl rfl ?_
  refine lk_iaddN (a := 102) (b := b) dX9_lockOf_15 ?_
  refine lk_ialdN (f := 0) (i := 102 + b) dX9_lockOf_16 rfl (by decide) rfl (by omega) (by decide) ?_
  refine lk_eqtop (y := (nI (k))) ((lk_rB (by omega)).trans hr) ?_
  refine lk_goto (tgt := 31) dX9_lockOf_17 (by decide) ?_
  refine lk_istore_n (L' := [(0, lk_vr 1 0), (1, lk_vi (nI (b))), (2, lk_vi (nI (k)))]) dX9_lockOf_31 rfl (by decide +kernel) rfl ?_
  refine lk_aload_n dX9_lockOf_32 rfl rfl ?_
  refine lk_iload_n dX9_lockOf_33 rfl rfl ?_
  refine lk_callV (o := 1) (as := [lk_vi (nI (k))]) (S := []) dX9_lockOf_34 rfl vX9_isLock rfl lX9_50 rfl rfl (Nat.le_of_ble_eq_true rfl) (tX9_isLock l X d (lk_ms σ V T) τ (k := (nI (k))) ) ?_
  refine lk_k3 ?_
  refine lk_cast (pc' := 37) (S' := [lk_vi (if (0 : Int32) ≤ (nI (k)) ∧ (nI (k)) ≤ (lk_ms σ V T) 1 0 53 - 1 then 1 else 0)]) rfl rfl rfl ?_
  refine lk_if_eqB (tgt := 44) dX9_lockOf_37 (by decide) (fun hh2 => absurd hh2 (fun q => q (lk_isl hV hk))) (fun hh2 => ?_)
  refine lk_iload_n dX9_lockOf_40 rfl rfl ?_
  refine lk_goto (tgt := 46) dX9_lockOf_41 (by decide) ?_
  refine lk_iret .int dX9_lockOf_46 rfl rfl ?_
  rw [hQ]
  exact ⟨by first | rfl | (simp [*]; done) | (simp_all; done) | grind, by first | rfl | (simp [*]; done), rfl⟩
