set_option maxHeartbeats 1000000 in
set_option maxRecDepth 100000 in
theorem tX9_isUp_1 (l : Launch) (X : lk_G) (d : Nat) (σ : lk_N) (τ : lk_T) (V T : lk_O) (b : Nat) (hb : b < 12) (hu : σ 1 0 (90 + b) = 1) : lk_Mt l X mX9_isUp d [lk_vr 1 0, lk_vi (nI (b))] (lk_ms σ V T) τ (fun rr σ1 τ1 => rr = some (lk_vi 1) ∧ σ1 = (lk_ms σ V T) ∧ τ1 = τ) := by
  refine lk_met (L := [(0, lk_vr 1 0), (1, lk_vi (nI (b)))]) (by decide +kernel) (Nat.le_of_ble_eq_true rfl) rfl ?_
  obtain ⟨Q, hQ⟩ : ∃ Q : lk_Q, Q = fun rr σ1 τ1 => rr = some (lk_vi 1) ∧ σ1 = (lk_ms σ V T) ∧ τ1 = τ := ⟨_, rfl⟩
  rw [← hQ]
  refine lk_aload_n dX9_isUp_0 rfl rfl ?_
  refine lk_getR (f := 0) dX9_isUp_1 rfl fX9_9 (by decide) (by decide) ?_
  refine lk_bipush (v := 90) dX9_isUp_4 (by decide) ?_
  refine lk_iload_n dX9_isUp_6 rfl rfl ?_
  refine lk_iaddN (a := 90) (b := b) dX9_isUp_7 ?_
  refine lk_ialdN (f := 0) (i := 90 + b) dX9_isUp_8 rfl (by decide) rfl (by omega) (by decide) ?_
  refine lk_eqtop (y := (σ 1 0 (90 + b))) ((lk_rB (by omega)).trans rfl) ?_
  refine lk_iconst (v := 1) dX9_isUp_9 (by decide) ?_
  refine lk_icmp_ne (tgt := 17) dX9_isUp_10 (by decide) (fun hh1 => absurd hh1 (fun q => q hu)) (fun hh1 => ?_)
  refine lk_iconst (v := 1) dX9_isUp_13 (by decide) ?_
  refine lk_goto (tgt := 18) dX9_isUp_14 (by decide) ?_
  refine lk_iret .boolean dX9_isUp_18 rfl rfl ?_
  rw [hQ]
  exact ⟨by first | rfl | (simp [*]; done) | (simp_all; done) | grind, by first | rfl | (simp [*]; done), rfl⟩
