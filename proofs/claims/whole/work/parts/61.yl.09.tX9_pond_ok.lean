set_option maxHeartbeats 1000000 in
set_option maxRecDepth 100000 in
theorem tX9_pond_ok (l : Launch) (X : lk_G) (d : Nat) (σ : lk_N) (τ : lk_T) (V T : lk_O) (n u e : Nat) (ha : lk_all V n) (hu : u ≤ 4) (he : e ≤ 4) (m : Nat) (hm1 : 1 ≤ m) (hm : m ≤ 20) : lk_Mt l X mX9_pond (d + 7) [lk_vr 1 0, lk_vi (nI (u)), lk_vi (nI (e)), lk_vi (nI (m))] (lk_ms σ V T) τ (fun rr σ1 τ1 => rr = some (lk_vi (lk_pon V T n u e m n).2) ∧ τ1 = τ ∧ ∃ W : lk_N, σ1 = lk_ms W V T ∧ (lk_fx [2, 6, 7, 8, 9, 10, 11, 22, 24] σ W ∧ lk_kz σ W none)) := by
  refine lk_met (L := [(0, lk_vr 1 0), (1, lk_vi (nI (u))), (2, lk_vi (nI (e))), (3, lk_vi (nI (m)))]) (by decide +kernel) (Nat.le_of_ble_eq_true rfl) rfl ?_
  obtain ⟨Q, hQ⟩ : ∃ Q : lk_Q, Q = fun rr σ1 τ1 => rr = some (lk_vi (lk_pon V T n u e m n).2) ∧ τ1 = τ ∧ ∃ W : lk_N, σ1 = lk_ms W V T ∧ (lk_fx [2, 6, 7, 8, 9, 10, 11, 22, 24] σ W ∧ lk_kz σ W none) := ⟨_, rfl⟩
  rw [← hQ]
  have hn6 := ha.1.2.2.1
  refine lk_iload_n dX9_pond_0 rfl rfl ?_
  refine lk_iload_n dX9_pond_1 rfl rfl ?_
  refine lk_callS (as := [lk_vi (nI (u)), lk_vi (nI (e))]) (S := []) dX9_pond_2 rfl vX9_isTraffic rfl lX9_219 (Nat.le_of_ble_eq_true rfl) (tX9_isTraffic l X (d + 5) (lk_ms σ V T) τ (u := (nI (u))) (e := (nI (e))) ) ?_
  refine lk_k3 ?_
  refine lk_cast (pc' := 5) (S' := [lk_vi (if (0 ≤ (nI (u)) ∧ (nI (u)) ≤ 4) ∧ (0 ≤ (nI (e)) ∧ (nI (e)) ≤ 4) then 1 else 0)]) rfl rfl rfl ?_
  refine lk_if_eqB (tgt := 18) dX9_pond_5 (by decide) (fun hh1 => absurd hh1 (fun q => q ⟨lk_tr hu, lk_tr he⟩)) (fun hh1 => ?_)
  refine lk_iload_n dX9_pond_8 rfl rfl ?_
  refine lk_iconst (v := 1) dX9_pond_9 (by decide) ?_
  refine lk_bipush (v := 20) dX9_pond_10 (by decide) ?_
  refine lk_callS (as := [lk_vi (nI (m)), lk_vi 1, lk_vi 20]) (S := []) dX9_pond_12 rfl vX9_within rfl lX9_46 (Nat.le_of_ble_eq_true rfl) (tX9_within l X (d + 6) (lk_ms σ V T) τ (v := (nI (m))) (a := (1 : Int32)) (b := (20 : Int32)) ) ?_
  refine lk_k3 ?_
  refine lk_cast (pc' := 15) (S' := [lk_vi (if (1 : Int32) ≤ (nI (m)) ∧ (nI (m)) ≤ (20 : Int32) then 1 else 0)]) rfl rfl rfl ?_
  refine lk_if_neB (tgt := 20) dX9_pond_15 (by decide) (fun hh2 => ?_) (fun hh2 => absurd hh2 (fun q => q ⟨lk_one hm1 hm, nI_le (b := 20) hm (by decide)⟩))
  refine lk_aload_n dX9_pond_20 rfl rfl ?_
  refine lk_getR (f := 0) dX9_pond_21 rfl fX9_9 (by decide) (by decide) ?_
  refine lk_aload_n dX9_pond_24 rfl rfl ?_
  refine lk_getR (f := 2) dX9_pond_25 rfl fX9_18 (by decide) (by decide) ?_
  refine lk_callS (as := [lk_vr 1 1, lk_vr 1 3]) (S := []) dX9_pond_28 rfl vX9_pours rfl lX9_105 (Nat.le_of_ble_eq_true rfl) (tX9_pours_02ms l X (d + 6) σ τ (V := V) (T := T) ) ?_
  refine lk_k3 ?_
  refine lk_cast (pc' := 31) (S' := []) rfl rfl rfl ?_
  refine lk_aload_n dX9_pond_31 rfl rfl ?_
  refine lk_iload_n dX9_pond_32 rfl rfl ?_
  refine lk_iload_n dX9_pond_33 rfl rfl ?_
  refine lk_iload_n dX9_pond_34 rfl rfl ?_
  refine lk_callV (o := 1) (as := [lk_vi (nI (u)), lk_vi (nI (e)), lk_vi (nI (m))]) (S := []) dX9_pond_35 rfl vX9_summit rfl lX9_225 rfl rfl (Nat.le_of_ble_eq_true rfl) (tX9_summit l X d (lk_lay σ V T) τ (u := (u)) (e := (e)) (m := (m)) (V := V) (T := T) (n := n) (ha := ha) (hu := hu) (he := he) (hm := hm)) ?_
  refine lk_k4 (fun W1 hW1 => ?_)
  refine lk_cast (pc' := 38) (S' := [lk_vi ((lk_dys n u e m V T).1 6 n)]) rfl rfl rfl ?_
  refine lk_sg (σ' := (lk_ms W1 (lk_dys n u e m V T).1 T)) rfl ?_
  refine lk_istore (L' := [(0, lk_vr 1 0), (1, lk_vi (nI (u))), (2, lk_vi (nI (e))), (3, lk_vi (nI (m))), (4, lk_vi ((lk_dys n u e m V T).1 6 n))]) dX9_pond_38 (by decide +kernel) rfl ?_
  refine lk_bipush (v := (-2)) dX9_pond_40 (by decide) ?_
  refine lk_istore (L' := [(0, lk_vr 1 0), (1, lk_vi (nI (u))), (2, lk_vi (nI (e))), (3, lk_vi (nI (m))), (4, lk_vi ((lk_dys n u e m V T).1 6 n)), (5, lk_vi (-2))]) dX9_pond_42 (by decide +kernel) rfl ?_
  refine lk_iconst (v := 0) dX9_pond_44 (by decide) ?_
  refine lk_istore (L' := [(0, lk_vr 1 0), (1, lk_vi (nI (u))), (2, lk_vi (nI (e))), (3, lk_vi (nI (m))), (4, lk_vi ((lk_dys n u e m V T).1 6 n)), (5, lk_vi (-2)), (6, lk_vi 0)]) dX9_pond_45 (by decide +kernel) rfl ?_
  have LP47 : ∀ (fu : Nat) (k : Nat) (y z : Int32) (W : lk_N) (V1 : lk_O), k ≤ n → (y, z) = lk_pon V T n u e m k → V1 0 0 = nI n → lk_fx [2, 6, 7, 8, 9, 10, 11, 22, 24] σ W → lk_kz σ W none → (∀ j, W 1 2 j = lk_mw V T (σ 1 0) j) → n - k < fu → lk_W l X mX9_pond (d + 7) 47 [(0, lk_vr 1 0), (1, lk_vi (nI (u))), (2, lk_vi (nI (e))), (3, lk_vi (nI (m))), (4, lk_vi (y)), (5, lk_vi (z)), (6, lk_vi (nI (k)))] [] (lk_ms W V1 T) τ Q := by
    intro fu
    induction fu with
    | zero => intro k y z W V1 hk hI hc1 hWf hWk hWl hfu; exact absurd hfu (by omega)
    | succ fu ih =>
      intro k y z W V1 hk hI hc1 hWf hWk hWl hfu
      have hWs := hWf
      refine lk_iload dX9_pond_47 rfl ?_
      refine lk_aload_n dX9_pond_49 rfl rfl ?_
      refine lk_getR (f := 0) dX9_pond_50 rfl fX9_9 (by decide) (by decide) ?_
      refine lk_bipush (v := 53) dX9_pond_53 (by decide) ?_
      refine lk_ialdN (f := 0) (i := 53) dX9_pond_55 rfl (by decide) rfl (by omega) (by decide) ?_
      refine lk_eqtop (y := (nI (n))) ((lk_r0 rfl rfl).trans (by first | exact ha.1.1 | exact hc1)) ?_
      refine lk_icmp_geN (a := k) (b := n) (tgt := 161) dX9_pond_56 (by decide) (by omega) (by omega) (fun hh3 => ?_) (fun hh3 => ?_)
      ·
        refine lk_aload_n dX9_pond_161 rfl rfl ?_
        refine lk_getR (f := 2) dX9_pond_162 rfl fX9_18 (by decide) (by decide) ?_
        refine lk_aload_n dX9_pond_165 rfl rfl ?_
        refine lk_getR (f := 0) dX9_pond_166 rfl fX9_9 (by decide) (by decide) ?_
        refine lk_callS (as := [lk_vr 1 3, lk_vr 1 1]) (S := []) dX9_pond_169 rfl vX9_pours rfl lX9_105 (Nat.le_of_ble_eq_true rfl) (tX9_pours_20ms l X (d + 6) W τ (V := V1) (T := T) (V0 := V) (T0 := T) (R := σ 1 0) (hA := fun j hj => hWl j)) ?_
        refine lk_k3 ?_
        refine lk_cast (pc' := 172) (S' := []) rfl rfl rfl ?_
        refine lk_sg (σ' := (lk_ms W V T)) (by rw [lk_sw_fx hWs]) ?_
        refine lk_iload dX9_pond_172 rfl ?_
        refine lk_iret .int dX9_pond_174 rfl rfl ?_
        rw [hQ]
        have hkn : k = n := by omega
        subst hkn
        rw [← hI]
        exact ⟨rfl, rfl, W, rfl, hWf, hWk⟩
      ·
        refine lk_aload_n dX9_pond_59 rfl rfl ?_
        refine lk_getR (f := 2) dX9_pond_60 rfl fX9_18 (by decide) (by decide) ?_
        refine lk_aload_n dX9_pond_63 rfl rfl ?_
        refine lk_getR (f := 0) dX9_pond_64 rfl fX9_9 (by decide) (by decide) ?_
        refine lk_callS (as := [lk_vr 1 3, lk_vr 1 1]) (S := []) dX9_pond_67 rfl vX9_pours rfl lX9_105 (Nat.le_of_ble_eq_true rfl) (tX9_pours_20ms l X (d + 6) W τ (V := V1) (T := T) (V0 := V) (T0 := T) (R := σ 1 0) (hA := fun j hj => hWl j)) ?_
        refine lk_k3 ?_
        refine lk_cast (pc' := 70) (S' := []) rfl rfl rfl ?_
        refine lk_sg (σ' := (lk_ms W V T)) (by rw [lk_sw_fx hWs]) ?_
        refine lk_aload_n dX9_pond_70 rfl rfl ?_
        refine lk_getR (f := 0) dX9_pond_71 rfl fX9_9 (by decide) (by decide) ?_
        refine lk_bipush (v := 6) dX9_pond_74 (by decide) ?_
        refine lk_iload dX9_pond_76 rfl ?_
        refine lk_iaddN (a := 6) (b := k) dX9_pond_78 ?_
        refine lk_ialdN (f := 0) (i := 6 + k) dX9_pond_79 rfl (by decide) rfl (by omega) (by decide) ?_
        refine lk_eqtop (y := (V 3 (k))) (lk_r3 (by omega) (by omega)) ?_
        refine lk_iconst (v := 3) dX9_pond_80 (by decide) ?_
        refine lk_icmp_eq (tgt := 155) dX9_pond_81 (by decide) (fun hh4 => ?_) (fun hh4 => ?_)
        ·
          refine lk_iincN (a := k) (m := 1) (L' := [(0, lk_vr 1 0), (1, lk_vi (nI (u))), (2, lk_vi (nI (e))), (3, lk_vi (nI (m))), (4, lk_vi (y)), (5, lk_vi (z)), (6, lk_vi (nI (k + 1)))]) dX9_pond_155 rfl rfl (by decide +kernel) rfl ?_
          refine lk_goto (tgt := 47) dX9_pond_158 (by decide) ?_
          have e1 : lk_pon V T n u e m (k + 1) = lk_pon V T n u e m k := by
            simp only [lk_pon]
            rw [if_neg]
            rintro ⟨a, b, c⟩
            simp_all
          exact ih (k + 1) y z W V (by omega) (hI.trans e1.symm) ha.1.1 hWf hWk hWl (by omega)
        ·
          refine lk_aload_n dX9_pond_84 rfl rfl ?_
          refine lk_getR (f := 0) dX9_pond_85 rfl fX9_9 (by decide) (by decide) ?_
          refine lk_bipush (v := 18) dX9_pond_88 (by decide) ?_
          refine lk_iload dX9_pond_90 rfl ?_
          refine lk_iaddN (a := 18) (b := k) dX9_pond_92 ?_
          refine lk_ialdN (f := 0) (i := 18 + k) dX9_pond_93 rfl (by decide) rfl (by omega) (by decide) ?_
          refine lk_eqtop (y := (V 5 (k))) (lk_r5 (by omega) (by omega)) ?_
          refine lk_iconst (v := 1) dX9_pond_94 (by decide) ?_
          refine lk_icmp_eq (tgt := 155) dX9_pond_95 (by decide) (fun hh5 => ?_) (fun hh5 => ?_)
          ·
            refine lk_iincN (a := k) (m := 1) (L' := [(0, lk_vr 1 0), (1, lk_vi (nI (u))), (2, lk_vi (nI (e))), (3, lk_vi (nI (m))), (4, lk_vi (y)), (5, lk_vi (z)), (6, lk_vi (nI (k + 1)))]) dX9_pond_155 rfl rfl (by decide +kernel) rfl ?_
            refine lk_goto (tgt := 47) dX9_pond_158 (by decide) ?_
            have e1 : lk_pon V T n u e m (k + 1) = lk_pon V T n u e m k := by
              simp only [lk_pon]
              rw [if_neg]
              rintro ⟨a, b, c⟩
              simp_all
            exact ih (k + 1) y z W V (by omega) (hI.trans e1.symm) ha.1.1 hWf hWk hWl (by omega)
          ·
            refine lk_aload_n dX9_pond_98 rfl rfl ?_
            refine lk_getR (f := 0) dX9_pond_99 rfl fX9_9 (by decide) (by decide) ?_
            refine lk_bipush (v := 12) dX9_pond_102 (by decide) ?_
            refine lk_iload dX9_pond_104 rfl ?_
            refine lk_iaddN (a := 12) (b := k) dX9_pond_106 ?_
            refine lk_ialdN (f := 0) (i := 12 + k) dX9_pond_107 rfl (by decide) rfl (by omega) (by decide) ?_
            refine lk_eqtop (y := (V 4 (k))) (lk_r4 (by omega) (by omega)) ?_
            refine lk_if_le (tgt := 114) dX9_pond_108 (by decide) (fun hh6 => ?_) (fun hh6 => ?_)
            ·
              have h3 : V 3 k < 3 := lk_lt3 (ha.1.2.2.2 k (by omega)).2.2.2.1 (by assumption)
              have hrest := lk_restm (ha.1.2.2.2 k (by omega)) (by assumption) (by assumption)
              have ha2 := lk_all_pon ha (show k < n by omega) h3 hrest
              refine lk_aload_n dX9_pond_114 rfl rfl ?_
              refine lk_getR (f := 0) dX9_pond_115 rfl fX9_9 (by decide) (by decide) ?_
              refine lk_bipush (v := 6) dX9_pond_118 (by decide) ?_
              refine lk_iload dX9_pond_120 rfl ?_
              refine lk_iaddN (a := 6) (b := k) dX9_pond_122 ?_
              refine lk_dup2 dX9_pond_123 rfl rfl ?_
              refine lk_ialdN (f := 0) (i := 6 + k) dX9_pond_124 rfl (by decide) rfl (by omega) (by decide) ?_
              refine lk_eqtop (y := (V 3 (k))) (lk_r3 (by omega) (by omega)) ?_
              refine lk_iconst (v := 1) dX9_pond_125 (by decide) ?_
              refine lk_iadd dX9_pond_126 ?_
              refine lk_iastN (f := 0) (i := 6 + k) (v := ((V 3 (k)) + 1)) dX9_pond_127 rfl (by decide) rfl (by omega) (by decide) ?_
              refine lk_sg (σ' := (lk_ms W (lk_ou V 3 (k) ((V 3 (k)) + 1)) T)) (lk_w3 (by omega) (by omega)) ?_
              refine lk_aload_n dX9_pond_128 rfl rfl ?_
              refine lk_iload_n dX9_pond_129 rfl rfl ?_
              refine lk_iload_n dX9_pond_130 rfl rfl ?_
              refine lk_iload_n dX9_pond_131 rfl rfl ?_
              refine lk_callV (o := 1) (as := [lk_vi (nI (u)), lk_vi (nI (e)), lk_vi (nI (m))]) (S := []) dX9_pond_132 rfl vX9_summit rfl lX9_225 rfl rfl (Nat.le_of_ble_eq_true rfl) (tX9_summit l X d W τ (u := (u)) (e := (e)) (m := (m)) (V := (lk_ou V 3 (k) ((V 3 (k)) + 1))) (T := T) (n := n) (ha := ha2) (hu := hu) (he := he) (hm := hm)) ?_
              refine lk_k4 (fun W2 hW2 => ?_)
              refine lk_cast (pc' := 135) (S' := [lk_vi ((lk_dys n u e m (lk_ou V 3 (k) ((V 3 (k)) + 1)) T).1 6 n)]) rfl rfl rfl ?_
              refine lk_sg (σ' := (lk_ms W2 (lk_dys n u e m (lk_ou V 3 (k) ((V 3 (k)) + 1)) T).1 T)) rfl ?_
              refine lk_istore (L' := [(0, lk_vr 1 0), (1, lk_vi (nI (u))), (2, lk_vi (nI (e))), (3, lk_vi (nI (m))), (4, lk_vi (y)), (5, lk_vi (z)), (6, lk_vi (nI (k))), (7, lk_vi ((lk_dys n u e m (lk_ou V 3 (k) ((V 3 (k)) + 1)) T).1 6 n))]) dX9_pond_135 (by decide +kernel) rfl ?_
              refine lk_iload dX9_pond_137 rfl ?_
              refine lk_iload dX9_pond_139 rfl ?_
              refine lk_icmp_gt (tgt := 147) dX9_pond_141 (by decide) (fun hh7 => ?_) (fun hh7 => ?_)
              ·
                refine lk_iload dX9_pond_147 rfl ?_
                refine lk_istore (L' := [(0, lk_vr 1 0), (1, lk_vi (nI (u))), (2, lk_vi (nI (e))), (3, lk_vi (nI (m))), (4, lk_vi ((lk_dys n u e m (lk_ou V 3 (k) ((V 3 (k)) + 1)) T).1 6 n)), (5, lk_vi (z)), (6, lk_vi (nI (k))), (7, lk_vi ((lk_dys n u e m (lk_ou V 3 (k) ((V 3 (k)) + 1)) T).1 6 n))]) dX9_pond_149 (by decide +kernel) rfl ?_
                refine lk_iload dX9_pond_151 rfl ?_
                refine lk_istore (L' := [(0, lk_vr 1 0), (1, lk_vi (nI (u))), (2, lk_vi (nI (e))), (3, lk_vi (nI (m))), (4, lk_vi ((lk_dys n u e m (lk_ou V 3 (k) ((V 3 (k)) + 1)) T).1 6 n)), (5, lk_vi (nI (k))), (6, lk_vi (nI (k))), (7, lk_vi ((lk_dys n u e m (lk_ou V 3 (k) ((V 3 (k)) + 1)) T).1 6 n))]) dX9_pond_153 (by decide +kernel) rfl ?_
                refine lk_iincN (a := k) (m := 1) (L' := [(0, lk_vr 1 0), (1, lk_vi (nI (u))), (2, lk_vi (nI (e))), (3, lk_vi (nI (m))), (4, lk_vi ((lk_dys n u e m (lk_ou V 3 (k) ((V 3 (k)) + 1)) T).1 6 n)), (5, lk_vi (nI (k))), (6, lk_vi (nI (k + 1))), (7, lk_vi ((lk_dys n u e m (lk_ou V 3 (k) ((V 3 (k)) + 1)) T).1 6 n))]) dX9_pond_155 rfl rfl (by decide +kernel) rfl ?_
                refine lk_goto (tgt := 47) dX9_pond_158 (by decide) ?_
                refine lk_sub (L' := [(0, lk_vr 1 0), (1, lk_vi (nI (u))), (2, lk_vi (nI (e))), (3, lk_vi (nI (m))), (4, lk_vi ((lk_dys n u e m (lk_ou V 3 (k) ((V 3 (k)) + 1)) T).1 6 n)), (5, lk_vi (nI (k))), (6, lk_vi (nI (k + 1)))]) [0, 1, 2, 3, 4, 5, 6] rfl ?_
                have e1 : lk_pon V T n u e m (k + 1) = (((lk_dys n u e m (lk_ou V 3 (k) ((V 3 (k)) + 1)) T).1 6 n), nI k) := by
                  simp only [lk_pon]
                  rw [if_pos]
                  refine ⟨h3, hrest, ?_⟩
                  rw [← hI]
                  assumption
                exact ih (k + 1) _ (nI k) W2 _ (by omega) e1.symm (lk_all_dys m _ T ha2).1.1 (lk_fx_tr hWf (lk_fx_sa hW2.1)) (lk_kz_no hWk hW2.2) (fun j => (lk_fx_2 hW2.1 j).trans (hWl j)) (by omega)
              ·
                refine lk_goto (tgt := 155) dX9_pond_144 (by decide) ?_
                refine lk_iincN (a := k) (m := 1) (L' := [(0, lk_vr 1 0), (1, lk_vi (nI (u))), (2, lk_vi (nI (e))), (3, lk_vi (nI (m))), (4, lk_vi (y)), (5, lk_vi (z)), (6, lk_vi (nI (k + 1))), (7, lk_vi ((lk_dys n u e m (lk_ou V 3 (k) ((V 3 (k)) + 1)) T).1 6 n))]) dX9_pond_155 rfl rfl (by decide +kernel) rfl ?_
                refine lk_goto (tgt := 47) dX9_pond_158 (by decide) ?_
                refine lk_sub (L' := [(0, lk_vr 1 0), (1, lk_vi (nI (u))), (2, lk_vi (nI (e))), (3, lk_vi (nI (m))), (4, lk_vi (y)), (5, lk_vi (z)), (6, lk_vi (nI (k + 1)))]) [0, 1, 2, 3, 4, 5, 6] rfl ?_
                have e1 : lk_pon V T n u e m (k + 1) = lk_pon V T n u e m k := by
                  simp only [lk_pon]
                  rw [if_neg]
                  rintro ⟨a, b, c⟩
                  rw [← hI] at c
                  contradiction
                exact ih (k + 1) y z W2 _ (by omega) (hI.trans e1.symm) (lk_all_dys m _ T ha2).1.1 (lk_fx_tr hWf (lk_fx_sa hW2.1)) (lk_kz_no hWk hW2.2) (fun j => (lk_fx_2 hW2.1 j).trans (hWl j)) (by omega)
            ·
              refine lk_goto (tgt := 155) dX9_pond_111 (by decide) ?_
              refine lk_iincN (a := k) (m := 1) (L' := [(0, lk_vr 1 0), (1, lk_vi (nI (u))), (2, lk_vi (nI (e))), (3, lk_vi (nI (m))), (4, lk_vi (y)), (5, lk_vi (z)), (6, lk_vi (nI (k + 1)))]) dX9_pond_155 rfl rfl (by decide +kernel) rfl ?_
              refine lk_goto (tgt := 47) dX9_pond_158 (by decide) ?_
              have e1 : lk_pon V T n u e m (k + 1) = lk_pon V T n u e m k := by
                simp only [lk_pon]
                rw [if_neg]
                rintro ⟨a, b, c⟩
                simp_all
              exact ih (k + 1) y z W V (by omega) (hI.trans e1.symm) ha.1.1 hWf hWk hWl (by omega)
  exact LP47 (n + 1) 0 _ _ W1 _ (by omega) rfl (lk_all_dys m V T ha).1.1 (lk_fx_tr lk_fx_lay (lk_fx_sa hW1.1)) hW1.2 (fun j => (lk_fx_2 hW1.1 j).trans (lk_lay_2 j)) (by omega)
