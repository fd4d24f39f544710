set_option maxHeartbeats 1000000 in
set_option maxRecDepth 100000 in
theorem tX9_day_ok (l : Launch) (X : lk_G) (d : Nat) (σ : lk_N) (τ : lk_T) (V T : lk_O) (n u e : Nat) (ha : lk_all V n) (hu : u ≤ 4) (he : e ≤ 4)  : lk_Mt l X mX9_day (d + 6) [lk_vr 1 0, lk_vi (nI (u)), lk_vi (nI (e))] (lk_ms σ V T) τ (fun rr σ1 τ1 => rr = some (lk_vi (nI (lk_day V T n u e).1)) ∧ τ1 = τ ∧ ∃ W : lk_N, σ1 = lk_ms W (lk_day V T n u e).2.2.1 (lk_day V T n u e).2.2.2 ∧ lk_dgP 1 σ W (lk_day V T n u e).1 (lk_day V T n u e).2.1) := by
  refine lk_met (L := [(0, lk_vr 1 0), (1, lk_vi (nI (u))), (2, lk_vi (nI (e)))]) (by decide +kernel) (Nat.le_of_ble_eq_true rfl) rfl ?_
  obtain ⟨Q, hQ⟩ : ∃ Q : lk_Q, Q = fun rr σ1 τ1 => rr = some (lk_vi (nI (lk_day V T n u e).1)) ∧ τ1 = τ ∧ ∃ W : lk_N, σ1 = lk_ms W (lk_day V T n u e).2.2.1 (lk_day V T n u e).2.2.2 ∧ lk_dgP 1 σ W (lk_day V T n u e).1 (lk_day V T n u e).2.1 := ⟨_, rfl⟩
  rw [← hQ]
  refine lk_iload_n dX9_day_0 rfl rfl ?_
  refine lk_iload_n dX9_day_1 rfl rfl ?_
  refine lk_callS (as := [lk_vi (nI (u)), lk_vi (nI (e))]) (S := []) dX9_day_2 rfl vX9_isTraffic rfl lX9_219 (Nat.le_of_ble_eq_true rfl) (tX9_isTraffic l X (d + 4) (lk_ms σ V T) τ (u := (nI (u))) (e := (nI (e))) ) ?_
  refine lk_k3 ?_
  refine lk_cast (pc' := 5) (S' := [lk_vi (if (0 ≤ (nI (u)) ∧ (nI (u)) ≤ 4) ∧ (0 ≤ (nI (e)) ∧ (nI (e)) ≤ 4) then 1 else 0)]) rfl rfl rfl ?_
  refine lk_if_neB (tgt := 10) dX9_day_5 (by decide) (fun hh1 => ?_) (fun hh1 => absurd hh1 (fun q => q ⟨lk_tr hu, lk_tr he⟩))
  refine lk_aload_n dX9_day_10 rfl rfl ?_
  refine lk_iload_n dX9_day_11 rfl rfl ?_
  refine lk_iload_n dX9_day_12 rfl rfl ?_
  refine lk_iconst (v := 1) dX9_day_13 (by decide) ?_
  refine lk_callV (o := 1) (as := [lk_vi (nI (u)), lk_vi (nI (e)), lk_vi 1]) (S := []) dX9_day_14 rfl vX9_dayGoes rfl lX9_222 rfl rfl (Nat.le_of_ble_eq_true rfl) (tX9_dayGoes1 l X d σ τ (u := (u)) (e := (e)) (V := V) (T := T) (n := n) (ha0 := ha) (hu := hu) (he := he)) ?_
  refine lk_k4 (fun W2 hW2 => ?_)
  refine lk_cast (pc' := 17) (S' := []) rfl rfl rfl ?_
  refine lk_sg (σ' := (lk_ms W2 (lk_day V T n u e).2.2.1 (lk_day V T n u e).2.2.2)) rfl ?_
  refine lk_aload_n dX9_day_17 rfl rfl ?_
  refine lk_getIv (v := (nI ((lk_day V T n u e).1))) (f := 22) dX9_day_18 rfl fX9_196 (by decide) (by decide) ((lk_rf (by decide)).trans hW2.2.1) ?_
  refine lk_iret .int dX9_day_21 rfl rfl ?_
  rw [hQ]
  exact ⟨rfl, rfl, W2, rfl, hW2⟩
