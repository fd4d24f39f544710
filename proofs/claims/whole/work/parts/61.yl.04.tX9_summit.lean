set_option maxHeartbeats 1000000 in
set_option maxRecDepth 100000 in
theorem tX9_summit (l : Launch) (X : lk_G) (d : Nat) (σ : lk_N) (τ : lk_T) (V T : lk_O) (n u e : Nat) (ha : lk_all V n) (hu : u ≤ 4) (he : e ≤ 4) (m : Nat) (hm : m ≤ 20) : lk_Mt l X mX9_summit (d + 6) [lk_vr 1 0, lk_vi (nI (u)), lk_vi (nI (e)), lk_vi (nI (m))] (lk_ms σ V T) τ (fun rr σ1 τ1 => rr = some (lk_vi ((lk_dys n u e m V T).1 6 n)) ∧ τ1 = τ ∧ ∃ W : lk_N, σ1 = lk_ms W (lk_dys n u e m V T).1 T ∧ (lk_fx [6, 7, 8, 9, 10, 11, 22, 24] σ W ∧ lk_kz σ W none)) := by
  refine lk_met (L := [(0, lk_vr 1 0), (1, lk_vi (nI (u))), (2, lk_vi (nI (e))), (3, lk_vi (nI (m)))]) (by decide +kernel) (Nat.le_of_ble_eq_true rfl) rfl ?_
  obtain ⟨Q, hQ⟩ : ∃ Q : lk_Q, Q = fun rr σ1 τ1 => rr = some (lk_vi ((lk_dys n u e m V T).1 6 n)) ∧ τ1 = τ ∧ ∃ W : lk_N, σ1 = lk_ms W (lk_dys n u e m V T).1 T ∧ (lk_fx [6, 7, 8, 9, 10, 11, 22, 24] σ W ∧ lk_kz σ W none) := ⟨_, rfl⟩
  rw [← hQ]
  have hn6 := ha.1.2.2.1
  refine lk_iconst (v := 0) dX9_summit_0 (by decide) ?_
  refine lk_istore (L' := [(0, lk_vr 1 0), (1, lk_vi (nI (u))), (2, lk_vi (nI (e))), (3, lk_vi (nI (m))), (4, lk_vi 0)]) dX9_summit_1 (by decide +kernel) rfl ?_
  have LP3 : ∀ (fu : Nat) (i : Nat) (W : lk_N) (V1 : lk_O), i ≤ m → lk_all V1 n → lk_fx [6, 7, 8, 9, 10, 11, 22, 24] σ W → lk_kz σ W none → (lk_dys n u e m V T).1 = (lk_dys n u e (m - i) V1 T).1 → m - i < fu → lk_W l X mX9_summit (d + 6) 3 [(0, lk_vr 1 0), (1, lk_vi (nI (u))), (2, lk_vi (nI (e))), (3, lk_vi (nI (m))), (4, lk_vi (nI (i)))] [] (lk_ms W V1 T) τ Q := by
    intro fu
    induction fu with
    | zero => intro i W V1 hi hc hWf hWk hI hfu; exact absurd hfu (by omega)
    | succ fu ih =>
      intro i W V1 hi hc hWf hWk hI hfu
      refine lk_iload dX9_summit_3 rfl ?_
      refine lk_iload_n dX9_summit_5 rfl rfl ?_
      refine lk_icmp_geN (a := i) (b := m) (tgt := 22) dX9_summit_6 (by decide) (by omega) (by omega) (fun hh1 => ?_) (fun hh1 => ?_)
      ·
        refine lk_aload_n dX9_summit_22 rfl rfl ?_
        refine lk_getR (f := 0) dX9_summit_23 rfl fX9_9 (by decide) (by decide) ?_
        refine lk_bipush (v := 24) dX9_summit_26 (by decide) ?_
        refine lk_aload_n dX9_summit_28 rfl rfl ?_
        refine lk_getR (f := 0) dX9_summit_29 rfl fX9_9 (by decide) (by decide) ?_
        refine lk_bipush (v := 53) dX9_summit_32 (by decide) ?_
        refine lk_ialdN (f := 0) (i := 53) dX9_summit_34 rfl (by decide) rfl (by omega) (by decide) ?_
        refine lk_eqtop (y := (nI (n))) ((lk_r0 rfl rfl).trans hc.1.1) ?_
        refine lk_iaddN (a := 24) (b := n) dX9_summit_35 ?_
        refine lk_ialdN (f := 0) (i := 24 + n) dX9_summit_36 rfl (by decide) rfl (by omega) (by decide) ?_
        refine lk_eqtop (y := (V1 6 (n))) (lk_r6 (by omega) (by omega)) ?_
        refine lk_iret .int dX9_summit_37 rfl rfl ?_
        rw [hQ]
        rw [show m - i = 0 by omega] at hI
        have hI2 : (lk_dys n u e m V T).1 = V1 := hI
        rw [hI2]
        exact ⟨rfl, rfl, W, rfl, hWf, hWk⟩
      ·
        refine lk_aload_n dX9_summit_9 rfl rfl ?_
        refine lk_iload_n dX9_summit_10 rfl rfl ?_
        refine lk_iload_n dX9_summit_11 rfl rfl ?_
        refine lk_iconst (v := 0) dX9_summit_12 (by decide) ?_
        refine lk_callV (o := 1) (as := [lk_vi (nI (u)), lk_vi (nI (e)), lk_vi 0]) (S := []) dX9_summit_13 rfl vX9_dayGoes rfl lX9_222 rfl rfl (Nat.le_of_ble_eq_true rfl) (tX9_dayGoes0 l X d W τ (u := (u)) (e := (e)) (V := V1) (T := T) (n := n) (ha0 := hc) (hu := hu) (he := he)) ?_
        refine lk_k4 (fun W2 hW2 => ?_)
        refine lk_cast (pc' := 16) (S' := []) rfl rfl rfl ?_
        refine lk_sg (σ' := (lk_ms W2 (lk_day V1 T n u e).2.2.1 T)) rfl ?_
        refine lk_iincN (a := i) (m := 1) (L' := [(0, lk_vr 1 0), (1, lk_vi (nI (u))), (2, lk_vi (nI (e))), (3, lk_vi (nI (m))), (4, lk_vi (nI (i + 1)))]) dX9_summit_16 rfl rfl (by decide +kernel) rfl ?_
        refine lk_goto (tgt := 3) dX9_summit_19 (by decide) ?_
        rw [show m - i = (m - (i + 1)) + 1 by omega] at hI
        have hI2 : (lk_dys n u e m V T).1 = (lk_dys n u e (m - (i + 1)) (lk_fl (lk_day V1 T n u e).2) T).1 := by rw [hI]; exact lk_dys_t _ _ _ _
        refine lk_sg (σ' := lk_ms W2 (lk_fl (lk_day V1 T n u e).2) T) (lk_ms_fl _ _ _) ?_
        exact ih (i + 1) W2 (lk_fl (lk_day V1 T n u e).2) (by omega) (lk_all_fl (lk_all_day hc)) (lk_fx_tr hWf hW2.1) (lk_kz_no hWk (by simpa using hW2.2.2.2)) hI2 (by omega)
  exact LP3 (m + 1) 0 σ V (by omega) ha (lk_fx_rf _ _) ⟨rfl, rfl⟩ rfl (by omega)
