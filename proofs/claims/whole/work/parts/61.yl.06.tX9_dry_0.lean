set_option maxHeartbeats 1000000 in
set_option maxRecDepth 100000 in
theorem tX9_dry_0 (l : Launch) (X : lk_G) (d : Nat) (σ : lk_N) (τ : lk_T) (V T : lk_O) (n u e : Nat) (ha : lk_all V n) (hu : u ≤ 4) (he : e ≤ 4)  : lk_Mt l X mX9_dry (d + 6) [lk_vr 1 0, lk_vi (nI (u)), lk_vi (nI (e)), lk_vi 0] (lk_ms σ V T) τ (fun rr σ1 τ1 => rr = some (lk_vi (match lk_drf n u e 41 0 V T with | some p => nI p.1 | none => -2)) ∧ τ1 = τ ∧ ∃ W : lk_N, σ1 = lk_ms W V T ∧ (lk_fx [2, 6, 7, 8, 9, 10, 11, 22, 24] σ W ∧ lk_kz σ W none)) := by
  refine lk_met (L := [(0, lk_vr 1 0), (1, lk_vi (nI (u))), (2, lk_vi (nI (e))), (3, lk_vi 0)]) (by decide +kernel) (Nat.le_of_ble_eq_true rfl) rfl ?_
  obtain ⟨Q, hQ⟩ : ∃ Q : lk_Q, Q = fun rr σ1 τ1 => rr = some (lk_vi (match lk_drf n u e 41 0 V T with | some p => nI p.1 | none => -2)) ∧ τ1 = τ ∧ ∃ W : lk_N, σ1 = lk_ms W V T ∧ (lk_fx [2, 6, 7, 8, 9, 10, 11, 22, 24] σ W ∧ lk_kz σ W none) := ⟨_, rfl⟩
  rw [← hQ]
  have hn6 := ha.1.2.2.1
  refine lk_iload_n dX9_dry_0 rfl rfl ?_
  refine lk_iload_n dX9_dry_1 rfl rfl ?_
  refine lk_callS (as := [lk_vi (nI (u)), lk_vi (nI (e))]) (S := []) dX9_dry_2 rfl vX9_isTraffic rfl lX9_219 (Nat.le_of_ble_eq_true rfl) (tX9_isTraffic l X (d + 4) (lk_ms σ V T) τ (u := (nI (u))) (e := (nI (e))) ) ?_
  refine lk_k3 ?_
  refine lk_cast (pc' := 5) (S' := [lk_vi (if (0 ≤ (nI (u)) ∧ (nI (u)) ≤ 4) ∧ (0 ≤ (nI (e)) ∧ (nI (e)) ≤ 4) then 1 else 0)]) rfl rfl rfl ?_
  refine lk_if_eqB (tgt := 17) dX9_dry_5 (by decide) (fun hh1 => absurd hh1 (fun q => q ⟨lk_tr hu, lk_tr he⟩)) (fun hh1 => ?_)
  refine lk_iload_n dX9_dry_8 rfl rfl ?_
  refine lk_iconst (v := 0) dX9_dry_9 (by decide) ?_
  refine lk_iconst (v := 1) dX9_dry_10 (by decide) ?_
  refine lk_callS (as := [lk_vi 0, lk_vi 0, lk_vi 1]) (S := []) dX9_dry_11 rfl vX9_within rfl lX9_46 (Nat.le_of_ble_eq_true rfl) (tX9_within l X (d + 5) (lk_ms σ V T) τ (v := (0 : Int32)) (a := (0 : Int32)) (b := (1 : Int32)) ) ?_
  refine lk_k3 ?_
  refine lk_cast (pc' := 14) (S' := [lk_vi (if (0 : Int32) ≤ (0 : Int32) ∧ (0 : Int32) ≤ (1 : Int32) then 1 else 0)]) rfl rfl rfl ?_
  refine lk_if_neB (tgt := 19) dX9_dry_14 (by decide) (fun hh2 => ?_) (fun hh2 => absurd hh2 (fun q => q (by decide)))
  refine lk_aload_n dX9_dry_19 rfl rfl ?_
  refine lk_getR (f := 0) dX9_dry_20 rfl fX9_9 (by decide) (by decide) ?_
  refine lk_aload_n dX9_dry_23 rfl rfl ?_
  refine lk_getR (f := 2) dX9_dry_24 rfl fX9_18 (by decide) (by decide) ?_
  refine lk_callS (as := [lk_vr 1 1, lk_vr 1 3]) (S := []) dX9_dry_27 rfl vX9_pours rfl lX9_105 (Nat.le_of_ble_eq_true rfl) (tX9_pours_02ms l X (d + 5) σ τ (V := V) (T := T) ) ?_
  refine lk_k3 ?_
  refine lk_cast (pc' := 30) (S' := []) rfl rfl rfl ?_
  refine lk_iconst (v := 0) dX9_dry_30 (by decide) ?_
  refine lk_istore (L' := [(0, lk_vr 1 0), (1, lk_vi (nI (u))), (2, lk_vi (nI (e))), (3, lk_vi 0), (4, lk_vi 0)]) dX9_dry_31 (by decide +kernel) rfl ?_
  refine lk_aload_n dX9_dry_33 rfl rfl ?_
  refine lk_bipush (v := (-2)) dX9_dry_34 (by decide) ?_
  refine lk_putI (f := 24) dX9_dry_36 rfl fX9_209 (by decide) (by decide) ?_
  refine lk_sg (σ' := (lk_ms (lk_up (lk_lay σ V T) 1 24 0 (-2)) V T)) (lk_wf (by decide)) ?_
  have LP39 : ∀ (fu : Nat) (i : Nat) (W : lk_N) (V1 : lk_O), i ≤ 41 → lk_all V1 n → lk_fx [2, 6, 7, 8, 9, 10, 11, 22, 24] σ W → lk_kz σ W none → W 1 24 0 = -2 → (∀ j, W 1 2 j = lk_mw V T (σ 1 0) j) → lk_drf n u e 41 0 V T = lk_drf n u e (41 - i) i V1 T → 41 - i < fu → lk_W l X mX9_dry (d + 6) 39 [(0, lk_vr 1 0), (1, lk_vi (nI (u))), (2, lk_vi (nI (e))), (3, lk_vi 0), (4, lk_vi (nI (i)))] [] (lk_ms W V1 T) τ Q := by
    intro fu
    induction fu with
    | zero => intro i W V1 hi hc hWf hWk hW4 hWl hI hfu; exact absurd hfu (by omega)
    | succ fu ih =>
      intro i W V1 hi hc hWf hWk hW4 hWl hI hfu
      refine lk_iload dX9_dry_39 rfl ?_
      refine lk_bipush (v := 40) dX9_dry_41 (by decide) ?_
      refine lk_icmp_gtN (a := i) (b := 40) (tgt := 68) dX9_dry_43 (by decide) (by omega) (by omega) (fun hh3 => ?_) (fun hh3 => ?_)
      ·
        first | have hWs := hWf | skip
        refine lk_aload_n dX9_dry_68 rfl rfl ?_
        refine lk_getR (f := 2) dX9_dry_69 rfl fX9_18 (by decide) (by decide) ?_
        refine lk_aload_n dX9_dry_72 rfl rfl ?_
        refine lk_getR (f := 0) dX9_dry_73 rfl fX9_9 (by decide) (by decide) ?_
        refine lk_callS (as := [lk_vr 1 3, lk_vr 1 1]) (S := []) dX9_dry_76 rfl vX9_pours rfl lX9_105 (Nat.le_of_ble_eq_true rfl) (tX9_pours_20ms l X (d + 5) W τ (V := V1) (T := T) (V0 := V) (T0 := T) (R := σ 1 0) (hA := fun j hj => hWl j)) ?_
        refine lk_k3 ?_
        refine lk_cast (pc' := 79) (S' := []) rfl rfl rfl ?_
        refine lk_sg (σ' := (lk_ms W V T)) (by rw [lk_sw_fx hWs]) ?_
        refine lk_aload_n dX9_dry_79 rfl rfl ?_
        refine lk_getIv (v := (-2)) (f := 24) dX9_dry_80 rfl fX9_209 (by decide) (by decide) ((lk_rf (by decide)).trans hW4) ?_
        refine lk_bipush (v := (-2)) dX9_dry_83 (by decide) ?_
        refine lk_icmp_ne (tgt := 93) dX9_dry_85 (by decide) (fun hh4 => absurd hh4 (fun q => q rfl)) (fun hh4 => ?_)
        refine lk_bipush (v := (-2)) dX9_dry_88 (by decide) ?_
        refine lk_goto (tgt := 108) dX9_dry_90 (by decide) ?_
        refine lk_iret .int dX9_dry_108 rfl rfl ?_
        rw [hQ]
        rw [show 41 - i = 0 by omega] at hI
        rw [hI]
        exact ⟨rfl, rfl, W, rfl, hWf, hWk⟩
      ·
        refine lk_aload_n dX9_dry_46 rfl rfl ?_
        refine lk_getIv (v := (-2)) (f := 24) dX9_dry_47 rfl fX9_209 (by decide) (by decide) ((lk_rf (by decide)).trans hW4) ?_
        refine lk_bipush (v := (-2)) dX9_dry_50 (by decide) ?_
        refine lk_icmp_ne (tgt := 68) dX9_dry_52 (by decide) (fun hh5 => absurd hh5 (fun q => q rfl)) (fun hh5 => ?_)
        refine lk_aload_n dX9_dry_55 rfl rfl ?_
        refine lk_iload_n dX9_dry_56 rfl rfl ?_
        refine lk_iload_n dX9_dry_57 rfl rfl ?_
        refine lk_iconst (v := 0) dX9_dry_58 (by decide) ?_
        rcases hj : (lk_day V1 T n u e).2.1 with _ | kq
        ·
          refine lk_callV (o := 1) (as := [lk_vi (nI (u)), lk_vi (nI (e)), lk_vi 0]) (S := []) dX9_dry_59 rfl vX9_dayGoes rfl lX9_222 rfl rfl (Nat.le_of_ble_eq_true rfl) (tX9_dayGoes0 l X d W τ (u := (u)) (e := (e)) (V := V1) (T := T) (n := n) (ha0 := hc) (hu := hu) (he := he)) ?_
          refine lk_k4 (fun W2 hW2 => ?_)
          refine lk_cast (pc' := 62) (S' := []) rfl rfl rfl ?_
          refine lk_sg (σ' := (lk_ms W2 (lk_day V1 T n u e).2.2.1 T)) rfl ?_
          refine lk_iincN (a := i) (m := 1) (L' := [(0, lk_vr 1 0), (1, lk_vi (nI (u))), (2, lk_vi (nI (e))), (3, lk_vi 0), (4, lk_vi (nI (i + 1)))]) dX9_dry_62 rfl rfl (by decide +kernel) rfl ?_
          refine lk_goto (tgt := 39) dX9_dry_65 (by decide) ?_
          rw [show 41 - i = (41 - (i + 1)) + 1 by omega, lk_drf, hj] at hI
          have hI2 : lk_drf n u e 41 0 V T = lk_drf n u e (41 - (i + 1)) (i + 1) (lk_fl (lk_day V1 T n u e).2) T := hI.trans (lk_drf_t _ _ _ _ _)
          obtain ⟨g1, g2, g3, g4⟩ := hW2
          rw [hj] at g3
          refine lk_sg (σ' := lk_ms W2 (lk_fl (lk_day V1 T n u e).2) T) (lk_ms_fl _ _ _) ?_
          exact ih (i + 1) W2 (lk_fl (lk_day V1 T n u e).2) (by omega) (lk_all_fl (lk_all_day hc)) (lk_fx_tr hWf (lk_fx_sa g1)) (lk_kz_no hWk (by simpa using g4)) g3 (fun j => (lk_fx_2 g1 j).trans (hWl j)) hI2 (by omega)
        ·
          refine lk_callV (o := 1) (as := [lk_vi (nI (u)), lk_vi (nI (e)), lk_vi 0]) (S := []) dX9_dry_59 rfl vX9_dayGoes rfl lX9_222 rfl rfl (Nat.le_of_ble_eq_true rfl) (tX9_dayGoes0 l X d W τ (u := (u)) (e := (e)) (V := V1) (T := T) (n := n) (ha0 := hc) (hu := hu) (he := he)) ?_
          refine lk_k4 (fun W3 hW3 => ?_)
          refine lk_cast (pc' := 62) (S' := []) rfl rfl rfl ?_
          refine lk_sg (σ' := (lk_ms W3 (lk_day V1 T n u e).2.2.1 T)) rfl ?_
          refine lk_iincN (a := i) (m := 1) (L' := [(0, lk_vr 1 0), (1, lk_vi (nI (u))), (2, lk_vi (nI (e))), (3, lk_vi 0), (4, lk_vi (nI (i + 1)))]) dX9_dry_62 rfl rfl (by decide +kernel) rfl ?_
          rw [show 41 - i = (41 - (i + 1)) + 1 by omega, lk_drf, hj] at hI
          obtain ⟨g1, g2, g3, g4⟩ := hW3
          rw [hj] at g3
          have hWs := lk_fx_tr hWf (lk_fx_sa g1)
          have hWl' : ∀ j, W3 1 2 j = lk_mw V T (σ 1 0) j := fun j => (lk_fx_2 g1 j).trans (hWl j)
          clear hWl
          have hWl := hWl'
          
          refine lk_goto (tgt := 39) dX9_dry_65 (by decide) ?_
          refine lk_iload dX9_dry_39 rfl ?_
          refine lk_bipush (v := 40) dX9_dry_41 (by decide) ?_
          refine lk_icmp_gtN (a := i + 1) (b := 40) (tgt := 68) dX9_dry_43 (by decide) (by omega) (by omega) (fun hh6 => ?_) (fun hh6 => ?_)
          ·
            first | have hWs := hWf | skip
            refine lk_aload_n dX9_dry_68 rfl rfl ?_
            refine lk_getR (f := 2) dX9_dry_69 rfl fX9_18 (by decide) (by decide) ?_
            refine lk_aload_n dX9_dry_72 rfl rfl ?_
            refine lk_getR (f := 0) dX9_dry_73 rfl fX9_9 (by decide) (by decide) ?_
            refine lk_callS (as := [lk_vr 1 3, lk_vr 1 1]) (S := []) dX9_dry_76 rfl vX9_pours rfl lX9_105 (Nat.le_of_ble_eq_true rfl) (tX9_pours_20ms l X (d + 5) W3 τ (V := (lk_day V1 T n u e).2.2.1) (T := T) (V0 := V) (T0 := T) (R := σ 1 0) (hA := fun j hj => hWl j)) ?_
            refine lk_k3 ?_
            refine lk_cast (pc' := 79) (S' := []) rfl rfl rfl ?_
            refine lk_sg (σ' := (lk_ms W3 V T)) (by rw [lk_sw_fx hWs]) ?_
            refine lk_aload_n dX9_dry_79 rfl rfl ?_
            refine lk_getIv (v := (nI (kq.1))) (f := 24) dX9_dry_80 rfl fX9_209 (by decide) (by decide) ((lk_rf (by decide)).trans g3) ?_
            refine lk_bipush (v := (-2)) dX9_dry_83 (by decide) ?_
            refine lk_icmp_ne (tgt := 93) dX9_dry_85 (by decide) (fun hh7 => ?_) (fun hh7 => absurd hh7 (lk_nim2 (lk_bigk hn6 hc hj)))
            refine lk_iload_n dX9_dry_93 rfl rfl ?_
            refine lk_if_ne (tgt := 104) dX9_dry_94 (by decide) (fun hh8 => absurd hh8 (by decide)) (fun hh8 => ?_)
            refine lk_iload dX9_dry_97 rfl ?_
            refine lk_iconst (v := 1) dX9_dry_99 (by decide) ?_
            refine lk_isubN (a := i + 1) (b := 1) dX9_dry_100 (by omega) ?_
            refine lk_goto (tgt := 108) dX9_dry_101 (by decide) ?_
            refine lk_iret .int dX9_dry_108 rfl rfl ?_
            rw [hQ]
            rw [hI]
            exact ⟨rfl, rfl, W3, rfl, hWs, lk_kz_no hWk (by simpa using g4)⟩
          ·
            refine lk_aload_n dX9_dry_46 rfl rfl ?_
            refine lk_getIv (v := (nI (kq.1))) (f := 24) dX9_dry_47 rfl fX9_209 (by decide) (by decide) ((lk_rf (by decide)).trans g3) ?_
            refine lk_bipush (v := (-2)) dX9_dry_50 (by decide) ?_
            refine lk_icmp_ne (tgt := 68) dX9_dry_52 (by decide) (fun hh9 => ?_) (fun hh9 => absurd hh9 (lk_nim2 (lk_bigk hn6 hc hj)))
            first | have hWs := hWf | skip
            refine lk_aload_n dX9_dry_68 rfl rfl ?_
            refine lk_getR (f := 2) dX9_dry_69 rfl fX9_18 (by decide) (by decide) ?_
            refine lk_aload_n dX9_dry_72 rfl rfl ?_
            refine lk_getR (f := 0) dX9_dry_73 rfl fX9_9 (by decide) (by decide) ?_
            refine lk_callS (as := [lk_vr 1 3, lk_vr 1 1]) (S := []) dX9_dry_76 rfl vX9_pours rfl lX9_105 (Nat.le_of_ble_eq_true rfl) (tX9_pours_20ms l X (d + 5) W3 τ (V := (lk_day V1 T n u e).2.2.1) (T := T) (V0 := V) (T0 := T) (R := σ 1 0) (hA := fun j hj => hWl j)) ?_
            refine lk_k3 ?_
            refine lk_cast (pc' := 79) (S' := []) rfl rfl rfl ?_
            refine lk_sg (σ' := (lk_ms W3 V T)) (by rw [lk_sw_fx hWs]) ?_
            refine lk_aload_n dX9_dry_79 rfl rfl ?_
            refine lk_getIv (v := (nI (kq.1))) (f := 24) dX9_dry_80 rfl fX9_209 (by decide) (by decide) ((lk_rf (by decide)).trans g3) ?_
            refine lk_bipush (v := (-2)) dX9_dry_83 (by decide) ?_
            refine lk_icmp_ne (tgt := 93) dX9_dry_85 (by decide) (fun hh10 => ?_) (fun hh10 => absurd hh10 (lk_nim2 (lk_bigk hn6 hc hj)))
            refine lk_iload_n dX9_dry_93 rfl rfl ?_
            refine lk_if_ne (tgt := 104) dX9_dry_94 (by decide) (fun hh11 => absurd hh11 (by decide)) (fun hh11 => ?_)
            refine lk_iload dX9_dry_97 rfl ?_
            refine lk_iconst (v := 1) dX9_dry_99 (by decide) ?_
            refine lk_isubN (a := i + 1) (b := 1) dX9_dry_100 (by omega) ?_
            refine lk_goto (tgt := 108) dX9_dry_101 (by decide) ?_
            refine lk_iret .int dX9_dry_108 rfl rfl ?_
            rw [hQ]
            rw [hI]
            exact ⟨rfl, rfl, W3, rfl, hWs, lk_kz_no hWk (by simpa using g4)⟩
  exact LP39 42 0 (lk_up (lk_lay σ V T) 1 24 0 (-2)) V (by omega) ha (lk_fx_up lk_fx_lay (by decide)) ⟨rfl, rfl⟩ rfl (fun j => lk_lay_2 j) rfl (by omega)
