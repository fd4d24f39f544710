/-- a passage, tried: V' or what bars it -/
def lk_gS (σ : lk_N) (V T : lk_O) (k : Nat) (p : lk_P) (s : Int32) : lk_N := match p with
  | .inl V' => lk_ms (lk_up σ 1 6 0 (V 6 (k + 1) - V' 6 (k + 1))) V' T
  | .inr q => lk_ms (lk_up (lk_bar σ q) 1 6 0 s) V T
/-- the cause is kept -/
def lk_cau (σ : lk_N) (k : Nat) (q : Int32 × Nat × Int32) : lk_N := lk_up (lk_up (lk_up (lk_up (lk_up σ 1 10 0 1) 1 11 0 (nI k)) 1 11 1 q.1) 1 11 2 (nI q.2.1)) 1 11 3 q.2.2
theorem lk_tix {s : Int32} (h : -9 ≤ s.toInt) (h2 : s.toInt ≤ 108) : ∃ J, J < 118 ∧ 115 + s + 9 = nI (115 + J) ∧ ∀ T, lk_tad T s = lk_ou T 0 J (T 0 J + 1) := by
  have e := lk_ts (a := s) (b := -9) rfl (show (-9 : Int32).toInt = -9 from rfl) (by omega) (by omega) (by decide) (by decide)
  have hJ : (s - -9).toNatClampNeg = (s.toInt + 9).toNat := by
    show (s - -9).toInt.toNat = _
    rw [e]; congr 1
  refine ⟨(s.toInt + 9).toNat, by omega, ?_, fun T => ?_⟩
  · apply Int32.toInt_inj.mp
    have e1 := lk_ta (a := 115) (b := s) (show (115 : Int32).toInt = 115 from rfl) rfl (by decide) (by decide) (by omega) (by omega)
    have e2 := lk_ta (a := 115 + s) (b := 9) e1 (show (9 : Int32).toInt = 9 from rfl) (by omega) (by omega) (by decide) (by decide)
    rw [e2, nI_toInt (by omega)]
    omega
  · unfold lk_tad
    rw [if_neg, hJ]
    rintro (a | a)
    · have := Int32.lt_iff_toInt_lt.mp a
      rw [show (-9 : Int32).toInt = -9 from rfl] at this
      omega
    · have := Int32.lt_iff_toInt_lt.mp a
      rw [show (108 : Int32).toInt = 108 from rfl] at this
      omega
theorem lk_swp_flw2 (V : lk_O) (k : Nat) (z : Int32) : lk_swp V k (0 - z) = lk_flw V k z (0 - z) 3 := by
  rw [lk_swp_flw, show 0 - (0 - z) = z by grind]
set_option maxHeartbeats 1000000 in
set_option maxRecDepth 100000 in
theorem tX9_goes_up (l : Launch) (X : lk_G) (d : Nat) (σ : lk_N) (τ : lk_T) (V T : lk_O) (n k : Nat) (z : Int32) (hV : lk_cok V n) (hr : lk_rok V) (hk : k < n) : lk_Mt l X mX9_goes (d + 2) [lk_vr 1 0, lk_vi (nI (k)), lk_vi 1, lk_vi (z)] (lk_ms σ V T) τ (fun rr σ1 τ1 => rr = some (lk_vi (lk_flR (lk_pas V k true z))) ∧ τ1 = τ ∧ ∃ s : Int32, σ1 = lk_gS σ V T k (lk_pas V k true z) s) := by
  refine lk_met (L := [(0, lk_vr 1 0), (1, lk_vi (nI (k))), (2, lk_vi 1), (3, lk_vi (z))]) (by decide +kernel) (Nat.le_of_ble_eq_true rfl) rfl ?_
  obtain ⟨Q, hQ⟩ : ∃ Q : lk_Q, Q = fun rr σ1 τ1 => rr = some (lk_vi (lk_flR (lk_pas V k true z))) ∧ τ1 = τ ∧ ∃ s : Int32, σ1 = lk_gS σ V T k (lk_pas V k true z) s := ⟨_, rfl⟩
  rw [← hQ]
  have hk6 : k < 6 := Nat.lt_of_lt_of_le hk hV.2.2.1
  have h01 := (hV.2.2.2 k hk6).2.2.2.2.2.2
  refine lk_aload_n dX9_goes_0 rfl rfl ?_
  refine lk_getR (f := 0) dX9_goes_1 rfl fX9_9 (by decide) (by decide) ?_
  refine lk_bipush (v := 24) dX9_goes_4 (by decide) ?_
  refine lk_iload_n dX9_goes_6 rfl rfl ?_
  refine lk_iaddN (a := 24) (b := k) dX9_goes_7 ?_
  refine lk_ialdN (f := 0) (i := 24 + k) dX9_goes_8 rfl (by decide) rfl (by omega) (by decide) ?_
  refine lk_eqtop (y := (V 6 (k))) (lk_r6 (by omega) (by omega)) ?_
  refine lk_istore (L' := [(0, lk_vr 1 0), (1, lk_vi (nI (k))), (2, lk_vi 1), (3, lk_vi (z)), (4, lk_vi (V 6 (k)))]) dX9_goes_9 (by decide +kernel) rfl ?_
  refine lk_aload_n dX9_goes_11 rfl rfl ?_
  refine lk_getR (f := 0) dX9_goes_12 rfl fX9_9 (by decide) (by decide) ?_
  refine lk_bipush (v := 24) dX9_goes_15 (by decide) ?_
  refine lk_iload_n dX9_goes_17 rfl rfl ?_
  refine lk_iaddN (a := 24) (b := k) dX9_goes_18 ?_
  refine lk_iconst (v := 1) dX9_goes_19 (by decide) ?_
  refine lk_iaddN (a := 24 + k) (b := 1) dX9_goes_20 ?_
  refine lk_ialdN (f := 0) (i := 24 + k + 1) dX9_goes_21 rfl (by decide) rfl (by omega) (by decide) ?_
  refine lk_eqtop (y := (V 6 (k + 1))) (lk_r6 (by omega) (by omega)) ?_
  refine lk_istore (L' := [(0, lk_vr 1 0), (1, lk_vi (nI (k))), (2, lk_vi 1), (3, lk_vi (z)), (4, lk_vi (V 6 (k))), (5, lk_vi (V 6 (k + 1)))]) dX9_goes_22 (by decide +kernel) rfl ?_
  refine lk_aload_n dX9_goes_24 rfl rfl ?_
  refine lk_getR (f := 0) dX9_goes_25 rfl fX9_9 (by decide) (by decide) ?_
  refine lk_bipush (v := 12) dX9_goes_28 (by decide) ?_
  refine lk_iload_n dX9_goes_30 rfl rfl ?_
  refine lk_iaddN (a := 12) (b := k) dX9_goes_31 ?_
  refine lk_ialdN (f := 0) (i := 12 + k) dX9_goes_32 rfl (by decide) rfl (by omega) (by decide) ?_
  refine lk_eqtop (y := (V 4 (k))) (lk_r4 (by omega) (by omega)) ?_
  refine lk_istore (L' := [(0, lk_vr 1 0), (1, lk_vi (nI (k))), (2, lk_vi 1), (3, lk_vi (z)), (4, lk_vi (V 6 (k))), (5, lk_vi (V 6 (k + 1))), (6, lk_vi (V 4 (k)))]) dX9_goes_33 (by decide +kernel) rfl ?_
  refine lk_aload_n dX9_goes_35 rfl rfl ?_
  refine lk_getR (f := 0) dX9_goes_36 rfl fX9_9 (by decide) (by decide) ?_
  refine lk_bipush (v := 18) dX9_goes_39 (by decide) ?_
  refine lk_iload_n dX9_goes_41 rfl rfl ?_
  refine lk_iaddN (a := 18) (b := k) dX9_goes_42 ?_
  refine lk_ialdN (f := 0) (i := 18 + k) dX9_goes_43 rfl (by decide) rfl (by omega) (by decide) ?_
  refine lk_eqtop (y := (V 5 (k))) (lk_r5 (by omega) (by omega)) ?_
  refine lk_istore (L' := [(0, lk_vr 1 0), (1, lk_vi (nI (k))), (2, lk_vi 1), (3, lk_vi (z)), (4, lk_vi (V 6 (k))), (5, lk_vi (V 6 (k + 1))), (6, lk_vi (V 4 (k))), (7, lk_vi (V 5 (k)))]) dX9_goes_44 (by decide +kernel) rfl ?_
  refine lk_iload_n dX9_goes_46 rfl rfl ?_
  refine lk_if_eq (tgt := 93) dX9_goes_47 (by decide) (fun hh1 => absurd hh1 (by decide)) (fun hh1 => ?_)
  refine lk_iload dX9_goes_50 rfl ?_
  refine lk_if_eq (tgt := 63) dX9_goes_52 (by decide) (fun hh2 => ?_) (fun hh2 => ?_)
  ·
    refine lk_aload_n dX9_goes_63 rfl rfl ?_
    refine lk_iload_n dX9_goes_64 rfl rfl ?_
    rcases hV1 : lk_fil V k with V1 | q1
    ·
      have nV1 : lk_near V V1 k := lk_near_tr (lk_near_rf V k) (lk_fil_near hV1)
      have rV1 : lk_rok V1 := lk_fil_rok hr hk6 hV1
      refine lk_callV (o := 1) (as := [lk_vi (nI (k))]) (S := []) dX9_goes_65 rfl vX9_fills rfl lX9_134 rfl rfl (Nat.le_of_ble_eq_true rfl) (tX9_fills l X d σ τ (k := (k)) (V := V) (T := T) (hk := hk6) (hr := hr)) ?_
      refine lk_k3 ?_
      refine lk_cast (pc' := 68) (S' := [lk_vi (lk_flR (lk_fil V (k)))]) rfl rfl rfl ?_
      refine lk_eqtop (y := 1) (by rw [hV1]; rfl) ?_
      refine lk_sg (σ' := (lk_ms σ V1 T)) (by rw [hV1]; rfl) ?_
      refine lk_if_eq (tgt := 87) dX9_goes_68 (by decide) (fun hh3 => absurd hh3 (by decide)) (fun hh3 => ?_)
      refine lk_aload_n dX9_goes_71 rfl rfl ?_
      refine lk_iload_n dX9_goes_72 rfl rfl ?_
      refine lk_iload_n dX9_goes_73 rfl rfl ?_
      refine lk_ineg dX9_goes_74 ?_
      refine lk_iload_n dX9_goes_75 rfl rfl ?_
      refine lk_iconst (v := 3) dX9_goes_76 (by decide) ?_
      rcases hV2 : lk_swp V1 k (z) with V2 | q1
      ·
        have nV2 : lk_near V V2 k := lk_near_tr nV1 (lk_swp_near hV2)
        have rV2 : lk_rok V2 := lk_swp_rok rV1 hV2
        refine lk_callV (o := 1) (as := [lk_vi (nI (k)), lk_vi (0 - (z)), lk_vi (z), lk_vi 3]) (S := []) dX9_goes_77 rfl vX9_flows rfl lX9_127 rfl rfl (Nat.le_of_ble_eq_true rfl) (tX9_flows l X (d + 1) σ τ (k := (k)) (a := (0 - (z))) (b := (z)) (s := 3) (V := V1) (T := T) (hk := hk6)) ?_
        refine lk_k3 ?_
        refine lk_cast (pc' := 80) (S' := [lk_vi (lk_flR (lk_flw V1 (k) (0 - (z)) (z) 3))]) rfl rfl rfl ?_
        refine lk_eqtop (y := 1) (by rw [← lk_swp_flw, hV2]; rfl) ?_
        refine lk_sg (σ' := (lk_ms σ V2 T)) (by rw [← lk_swp_flw, hV2]; rfl) ?_
        refine lk_if_eq (tgt := 87) dX9_goes_80 (by decide) (fun hh4 => absurd hh4 (by decide)) (fun hh4 => ?_)
        refine lk_iconst (v := 1) dX9_goes_83 (by decide) ?_
        refine lk_goto (tgt := 88) dX9_goes_84 (by decide) ?_
        refine lk_istore (L' := [(0, lk_vr 1 0), (1, lk_vi (nI (k))), (2, lk_vi 1), (3, lk_vi (z)), (4, lk_vi (V 6 (k))), (5, lk_vi (V 6 (k + 1))), (6, lk_vi (V 4 (k))), (7, lk_vi (V 5 (k))), (8, lk_vi 1)]) dX9_goes_88 (by decide +kernel) rfl ?_
        refine lk_goto (tgt := 134) dX9_goes_90 (by decide) ?_
        refine lk_aload_n dX9_goes_134 rfl rfl ?_
        refine lk_iload dX9_goes_135 rfl ?_
        refine lk_aload_n dX9_goes_137 rfl rfl ?_
        refine lk_getR (f := 0) dX9_goes_138 rfl fX9_9 (by decide) (by decide) ?_
        refine lk_bipush (v := 24) dX9_goes_141 (by decide) ?_
        refine lk_iload_n dX9_goes_143 rfl rfl ?_
        refine lk_iaddN (a := 24) (b := k) dX9_goes_144 ?_
        refine lk_iconst (v := 1) dX9_goes_145 (by decide) ?_
        refine lk_iaddN (a := 24 + k) (b := 1) dX9_goes_146 ?_
        refine lk_ialdN (f := 0) (i := 24 + k + 1) dX9_goes_147 rfl (by decide) rfl (by omega) (by decide) ?_
        refine lk_eqtop (y := (V2 6 (k + 1))) (lk_r6 (by omega) (by omega)) ?_
        refine lk_isub dX9_goes_148 ?_
        refine lk_putI (f := 6) dX9_goes_149 rfl fX9_137 (by decide) (by decide) ?_
        refine lk_sg (σ' := (lk_ms (lk_up σ 1 6 0 ((V 6 (k + 1)) - (V2 6 (k + 1)))) V2 T)) (lk_wf (by decide)) ?_
        refine lk_iload dX9_goes_152 rfl ?_
        refine lk_if_ne (tgt := 203) dX9_goes_154 (by decide) (fun hh5 => ?_) (fun hh5 => absurd hh5 (by decide))
        refine lk_iload dX9_goes_203 rfl ?_
        refine lk_iret .boolean dX9_goes_205 rfl rfl ?_
        rw [hQ]
        first | have h5 : V 5 k = 0 := h01.resolve_right (by assumption) | skip
        have hp : lk_pas V k true z = .inl V2 := by simp only [lk_pas]; simp [lk_sb, *, -Int32.zero_sub]
        rw [hp]
        exact ⟨rfl, rfl, 0, rfl⟩
      ·
        refine lk_callV (o := 1) (as := [lk_vi (nI (k)), lk_vi (0 - (z)), lk_vi (z), lk_vi 3]) (S := []) dX9_goes_77 rfl vX9_flows rfl lX9_127 rfl rfl (Nat.le_of_ble_eq_true rfl) (tX9_flows l X (d + 1) σ τ (k := (k)) (a := (0 - (z))) (b := (z)) (s := 3) (V := V1) (T := T) (hk := hk6)) ?_
        refine lk_k3 ?_
        refine lk_cast (pc' := 80) (S' := [lk_vi (lk_flR (lk_flw V1 (k) (0 - (z)) (z) 3))]) rfl rfl rfl ?_
        refine lk_eqtop (y := 0) (by rw [← lk_swp_flw, hV2]; rfl) ?_
        refine lk_sg (σ' := (lk_ms (lk_bar σ q1) V1 T)) (by rw [← lk_swp_flw, hV2]; rfl) ?_
        refine lk_if_eq (tgt := 87) dX9_goes_80 (by decide) (fun hh6 => ?_) (fun hh6 => absurd hh6 (by decide))
        refine lk_iconst (v := 0) dX9_goes_87 (by decide) ?_
        refine lk_istore (L' := [(0, lk_vr 1 0), (1, lk_vi (nI (k))), (2, lk_vi 1), (3, lk_vi (z)), (4, lk_vi (V 6 (k))), (5, lk_vi (V 6 (k + 1))), (6, lk_vi (V 4 (k))), (7, lk_vi (V 5 (k))), (8, lk_vi 0)]) dX9_goes_88 (by decide +kernel) rfl ?_
        refine lk_goto (tgt := 134) dX9_goes_90 (by decide) ?_
        refine lk_aload_n dX9_goes_134 rfl rfl ?_
        refine lk_iload dX9_goes_135 rfl ?_
        refine lk_aload_n dX9_goes_137 rfl rfl ?_
        refine lk_getR (f := 0) dX9_goes_138 rfl fX9_9 (by decide) (by decide) ?_
        refine lk_bipush (v := 24) dX9_goes_141 (by decide) ?_
        refine lk_iload_n dX9_goes_143 rfl rfl ?_
        refine lk_iaddN (a := 24) (b := k) dX9_goes_144 ?_
        refine lk_iconst (v := 1) dX9_goes_145 (by decide) ?_
        refine lk_iaddN (a := 24 + k) (b := 1) dX9_goes_146 ?_
        refine lk_ialdN (f := 0) (i := 24 + k + 1) dX9_goes_147 rfl (by decide) rfl (by omega) (by decide) ?_
        refine lk_eqtop (y := (V1 6 (k + 1))) (lk_r6 (by omega) (by omega)) ?_
        refine lk_isub dX9_goes_148 ?_
        refine lk_putI (f := 6) dX9_goes_149 rfl fX9_137 (by decide) (by decide) ?_
        refine lk_sg (σ' := (lk_ms (lk_up (lk_bar σ q1) 1 6 0 ((V 6 (k + 1)) - (V1 6 (k + 1)))) V1 T)) (lk_wf (by decide)) ?_
        refine lk_iload dX9_goes_152 rfl ?_
        refine lk_if_ne (tgt := 203) dX9_goes_154 (by decide) (fun hh7 => absurd hh7 (by decide)) (fun hh7 => ?_)
        refine lk_aload_n dX9_goes_157 rfl rfl ?_
        refine lk_getR (f := 0) dX9_goes_158 rfl fX9_9 (by decide) (by decide) ?_
        refine lk_bipush (v := 24) dX9_goes_161 (by decide) ?_
        refine lk_iload_n dX9_goes_163 rfl rfl ?_
        refine lk_iaddN (a := 24) (b := k) dX9_goes_164 ?_
        refine lk_iload dX9_goes_165 rfl ?_
        refine lk_iastN (f := 0) (i := 24 + k) (v := (V 6 (k))) dX9_goes_167 rfl (by decide) rfl (by omega) (by decide) ?_
        refine lk_sg (σ' := (lk_ms (lk_up (lk_bar σ q1) 1 6 0 ((V 6 (k + 1)) - (V1 6 (k + 1)))) (lk_ou V1 6 (k) (V 6 (k))) T)) (lk_w6 (by omega) (by omega)) ?_
        refine lk_aload_n dX9_goes_168 rfl rfl ?_
        refine lk_getR (f := 0) dX9_goes_169 rfl fX9_9 (by decide) (by decide) ?_
        refine lk_bipush (v := 24) dX9_goes_172 (by decide) ?_
        refine lk_iload_n dX9_goes_174 rfl rfl ?_
        refine lk_iaddN (a := 24) (b := k) dX9_goes_175 ?_
        refine lk_iconst (v := 1) dX9_goes_176 (by decide) ?_
        refine lk_iaddN (a := 24 + k) (b := 1) dX9_goes_177 ?_
        refine lk_iload dX9_goes_178 rfl ?_
        refine lk_iastN (f := 0) (i := 24 + k + 1) (v := (V 6 (k + 1))) dX9_goes_180 rfl (by decide) rfl (by omega) (by decide) ?_
        refine lk_sg (σ' := (lk_ms (lk_up (lk_bar σ q1) 1 6 0 ((V 6 (k + 1)) - (V1 6 (k + 1)))) (lk_ou (lk_ou V1 6 (k) (V 6 (k))) 6 (k + 1) (V 6 (k + 1))) T)) (lk_w6 (by omega) (by omega)) ?_
        refine lk_aload_n dX9_goes_181 rfl rfl ?_
        refine lk_getR (f := 0) dX9_goes_182 rfl fX9_9 (by decide) (by decide) ?_
        refine lk_bipush (v := 12) dX9_goes_185 (by decide) ?_
        refine lk_iload_n dX9_goes_187 rfl rfl ?_
        refine lk_iaddN (a := 12) (b := k) dX9_goes_188 ?_
        refine lk_iload dX9_goes_189 rfl ?_
        refine lk_iastN (f := 0) (i := 12 + k) (v := (V 4 (k))) dX9_goes_191 rfl (by decide) rfl (by omega) (by decide) ?_
        refine lk_sg (σ' := (lk_ms (lk_up (lk_bar σ q1) 1 6 0 ((V 6 (k + 1)) - (V1 6 (k + 1)))) (lk_ou (lk_ou (lk_ou V1 6 (k) (V 6 (k))) 6 (k + 1) (V 6 (k + 1))) 4 (k) (V 4 (k))) T)) (lk_w4 (by omega) (by omega)) ?_
        refine lk_aload_n dX9_goes_192 rfl rfl ?_
        refine lk_getR (f := 0) dX9_goes_193 rfl fX9_9 (by decide) (by decide) ?_
        refine lk_bipush (v := 18) dX9_goes_196 (by decide) ?_
        refine lk_iload_n dX9_goes_198 rfl rfl ?_
        refine lk_iaddN (a := 18) (b := k) dX9_goes_199 ?_
        refine lk_iload dX9_goes_200 rfl ?_
        refine lk_iastN (f := 0) (i := 18 + k) (v := (V 5 (k))) dX9_goes_202 rfl (by decide) rfl (by omega) (by decide) ?_
        refine lk_sg (σ' := (lk_ms (lk_up (lk_bar σ q1) 1 6 0 ((V 6 (k + 1)) - (V1 6 (k + 1)))) (lk_ou (lk_ou (lk_ou (lk_ou V1 6 (k) (V 6 (k))) 6 (k + 1) (V 6 (k + 1))) 4 (k) (V 4 (k))) 5 (k) (V 5 (k))) T)) (lk_w5 (by omega) (by omega)) ?_
        refine lk_iload dX9_goes_203 rfl ?_
        refine lk_iret .boolean dX9_goes_205 rfl rfl ?_
        rw [hQ]
        first | have h5 : V 5 k = 0 := h01.resolve_right (by assumption) | skip
        have hp : lk_pas V k true z = .inr q1 := by simp only [lk_pas]; simp [lk_sb, *, -Int32.zero_sub]
        rw [hp]
        refine ⟨rfl, rfl, ((V 6 (k + 1)) - (V1 6 (k + 1))), ?_⟩
        show _ = lk_ms (lk_up (lk_bar σ q1) 1 6 0 (((V 6 (k + 1)) - (V1 6 (k + 1))))) V T
        rw [lk_near_back nV1]
    ·
      refine lk_callV (o := 1) (as := [lk_vi (nI (k))]) (S := []) dX9_goes_65 rfl vX9_fills rfl lX9_134 rfl rfl (Nat.le_of_ble_eq_true rfl) (tX9_fills l X d σ τ (k := (k)) (V := V) (T := T) (hk := hk6) (hr := hr)) ?_
      refine lk_k3 ?_
      refine lk_cast (pc' := 68) (S' := [lk_vi (lk_flR (lk_fil V (k)))]) rfl rfl rfl ?_
      refine lk_eqtop (y := 0) (by rw [hV1]; rfl) ?_
      refine lk_sg (σ' := (lk_ms (lk_bar σ q1) V T)) (by rw [hV1]; rfl) ?_
      refine lk_if_eq (tgt := 87) dX9_goes_68 (by decide) (fun hh8 => ?_) (fun hh8 => absurd hh8 (by decide))
      refine lk_iconst (v := 0) dX9_goes_87 (by decide) ?_
      refine lk_istore (L' := [(0, lk_vr 1 0), (1, lk_vi (nI (k))), (2, lk_vi 1), (3, lk_vi (z)), (4, lk_vi (V 6 (k))), (5, lk_vi (V 6 (k + 1))), (6, lk_vi (V 4 (k))), (7, lk_vi (V 5 (k))), (8, lk_vi 0)]) dX9_goes_88 (by decide +kernel) rfl ?_
      refine lk_goto (tgt := 134) dX9_goes_90 (by decide) ?_
      refine lk_aload_n dX9_goes_134 rfl rfl ?_
      refine lk_iload dX9_goes_135 rfl ?_
      refine lk_aload_n dX9_goes_137 rfl rfl ?_
      refine lk_getR (f := 0) dX9_goes_138 rfl fX9_9 (by decide) (by decide) ?_
      refine lk_bipush (v := 24) dX9_goes_141 (by decide) ?_
      refine lk_iload_n dX9_goes_143 rfl rfl ?_
      refine lk_iaddN (a := 24) (b := k) dX9_goes_144 ?_
      refine lk_iconst (v := 1) dX9_goes_145 (by decide) ?_
      refine lk_iaddN (a := 24 + k) (b := 1) dX9_goes_146 ?_
      refine lk_ialdN (f := 0) (i := 24 + k + 1) dX9_goes_147 rfl (by decide) rfl (by omega) (by decide) ?_
      refine lk_eqtop (y := (V 6 (k + 1))) (lk_r6 (by omega) (by omega)) ?_
      refine lk_isub dX9_goes_148 ?_
      refine lk_putI (f := 6) dX9_goes_149 rfl fX9_137 (by decide) (by decide) ?_
      refine lk_sg (σ' := (lk_ms (lk_up (lk_bar σ q1) 1 6 0 ((V 6 (k + 1)) - (V 6 (k + 1)))) V T)) (lk_wf (by decide)) ?_
      refine lk_iload dX9_goes_152 rfl ?_
      refine lk_if_ne (tgt := 203) dX9_goes_154 (by decide) (fun hh9 => absurd hh9 (by decide)) (fun hh9 => ?_)
      refine lk_aload_n dX9_goes_157 rfl rfl ?_
      refine lk_getR (f := 0) dX9_goes_158 rfl fX9_9 (by decide) (by decide) ?_
      refine lk_bipush (v := 24) dX9_goes_161 (by decide) ?_
      refine lk_iload_n dX9_goes_163 rfl rfl ?_
      refine lk_iaddN (a := 24) (b := k) dX9_goes_164 ?_
      refine lk_iload dX9_goes_165 rfl ?_
      refine lk_iastN (f := 0) (i := 24 + k) (v := (V 6 (k))) dX9_goes_167 rfl (by decide) rfl (by omega) (by decide) ?_
      refine lk_sg (σ' := (lk_ms (lk_up (lk_bar σ q1) 1 6 0 ((V 6 (k + 1)) - (V 6 (k + 1)))) (lk_ou V 6 (k) (V 6 (k))) T)) (lk_w6 (by omega) (by omega)) ?_
      refine lk_aload_n dX9_goes_168 rfl rfl ?_
      refine lk_getR (f := 0) dX9_goes_169 rfl fX9_9 (by decide) (by decide) ?_
      refine lk_bipush (v := 24) dX9_goes_172 (by decide) ?_
      refine lk_iload_n dX9_goes_174 rfl rfl ?_
      refine lk_iaddN (a := 24) (b := k) dX9_goes_175 ?_
      refine lk_iconst (v := 1) dX9_goes_176 (by decide) ?_
      refine lk_iaddN (a := 24 + k) (b := 1) dX9_goes_177 ?_
      refine lk_iload dX9_goes_178 rfl ?_
      refine lk_iastN (f := 0) (i := 24 + k + 1) (v := (V 6 (k + 1))) dX9_goes_180 rfl (by decide) rfl (by omega) (by decide) ?_
      refine lk_sg (σ' := (lk_ms (lk_up (lk_bar σ q1) 1 6 0 ((V 6 (k + 1)) - (V 6 (k + 1)))) (lk_ou (lk_ou V 6 (k) (V 6 (k))) 6 (k + 1) (V 6 (k + 1))) T)) (lk_w6 (by omega) (by omega)) ?_
      refine lk_aload_n dX9_goes_181 rfl rfl ?_
      refine lk_getR (f := 0) dX9_goes_182 rfl fX9_9 (by decide) (by decide) ?_
      refine lk_bipush (v := 12) dX9_goes_185 (by decide) ?_
      refine lk_iload_n dX9_goes_187 rfl rfl ?_
      refine lk_iaddN (a := 12) (b := k) dX9_goes_188 ?_
      refine lk_iload dX9_goes_189 rfl ?_
      refine lk_iastN (f := 0) (i := 12 + k) (v := (V 4 (k))) dX9_goes_191 rfl (by decide) rfl (by omega) (by decide) ?_
      refine lk_sg (σ' := (lk_ms (lk_up (lk_bar σ q1) 1 6 0 ((V 6 (k + 1)) - (V 6 (k + 1)))) (lk_ou (lk_ou (lk_ou V 6 (k) (V 6 (k))) 6 (k + 1) (V 6 (k + 1))) 4 (k) (V 4 (k))) T)) (lk_w4 (by omega) (by omega)) ?_
      refine lk_aload_n dX9_goes_192 rfl rfl ?_
      refine lk_getR (f := 0) dX9_goes_193 rfl fX9_9 (by decide) (by decide) ?_
      refine lk_bipush (v := 18) dX9_goes_196 (by decide) ?_
      refine lk_iload_n dX9_goes_198 rfl rfl ?_
      refine lk_iaddN (a := 18) (b := k) dX9_goes_199 ?_
      refine lk_iload dX9_goes_200 rfl ?_
      refine lk_iastN (f := 0) (i := 18 + k) (v := (V 5 (k))) dX9_goes_202 rfl (by decide) rfl (by omega) (by decide) ?_
      refine lk_sg (σ' := (lk_ms (lk_up (lk_bar σ q1) 1 6 0 ((V 6 (k + 1)) - (V 6 (k + 1)))) (lk_ou (lk_ou (lk_ou (lk_ou V 6 (k) (V 6 (k))) 6 (k + 1) (V 6 (k + 1))) 4 (k) (V 4 (k))) 5 (k) (V 5 (k))) T)) (lk_w5 (by omega) (by omega)) ?_
      refine lk_iload dX9_goes_203 rfl ?_
      refine lk_iret .boolean dX9_goes_205 rfl rfl ?_
      rw [hQ]
      first | have h5 : V 5 k = 0 := h01.resolve_right (by assumption) | skip
      have hp : lk_pas V k true z = .inr q1 := by simp only [lk_pas]; simp [lk_sb, *, -Int32.zero_sub]
      rw [hp]
      refine ⟨rfl, rfl, ((V 6 (k + 1)) - (V 6 (k + 1))), ?_⟩
      show _ = lk_ms (lk_up (lk_bar σ q1) 1 6 0 (((V 6 (k + 1)) - (V 6 (k + 1))))) V T
      rw [lk_near_back (lk_near_rf V k)]
  ·
    refine lk_aload_n dX9_goes_55 rfl rfl ?_
    refine lk_iload_n dX9_goes_56 rfl rfl ?_
    rcases hV1 : lk_emp V k with V1 | q1
    ·
      have nV1 : lk_near V V1 k := lk_near_tr (lk_near_rf V k) (lk_emp_near hV1)
      have rV1 : lk_rok V1 := lk_emp_rok hr hk6 hV1
      refine lk_callV (o := 1) (as := [lk_vi (nI (k))]) (S := []) dX9_goes_57 rfl vX9_empties rfl lX9_131 rfl rfl (Nat.le_of_ble_eq_true rfl) (tX9_empties l X d σ τ (k := (k)) (V := V) (T := T) (hk := hk6) (hr := hr) (hp := (lk_lok_p (hV.2.2.2 k hk6)))) ?_
      refine lk_k3 ?_
      refine lk_cast (pc' := 60) (S' := [lk_vi (lk_flR (lk_emp V (k)))]) rfl rfl rfl ?_
      refine lk_eqtop (y := 1) (by rw [hV1]; rfl) ?_
      refine lk_sg (σ' := (lk_ms σ V1 T)) (by rw [hV1]; rfl) ?_
      refine lk_if_eq (tgt := 87) dX9_goes_60 (by decide) (fun hh10 => absurd hh10 (by decide)) (fun hh10 => ?_)
      refine lk_aload_n dX9_goes_63 rfl rfl ?_
      refine lk_iload_n dX9_goes_64 rfl rfl ?_
      rcases hV2 : lk_fil V1 k with V2 | q1
      ·
        have nV2 : lk_near V V2 k := lk_near_tr nV1 (lk_fil_near hV2)
        have rV2 : lk_rok V2 := lk_fil_rok rV1 hk6 hV2
        refine lk_callV (o := 1) (as := [lk_vi (nI (k))]) (S := []) dX9_goes_65 rfl vX9_fills rfl lX9_134 rfl rfl (Nat.le_of_ble_eq_true rfl) (tX9_fills l X d σ τ (k := (k)) (V := V1) (T := T) (hk := hk6) (hr := rV1)) ?_
        refine lk_k3 ?_
        refine lk_cast (pc' := 68) (S' := [lk_vi (lk_flR (lk_fil V1 (k)))]) rfl rfl rfl ?_
        refine lk_eqtop (y := 1) (by rw [hV2]; rfl) ?_
        refine lk_sg (σ' := (lk_ms σ V2 T)) (by rw [hV2]; rfl) ?_
        refine lk_if_eq (tgt := 87) dX9_goes_68 (by decide) (fun hh11 => absurd hh11 (by decide)) (fun hh11 => ?_)
        refine lk_aload_n dX9_goes_71 rfl rfl ?_
        refine lk_iload_n dX9_goes_72 rfl rfl ?_
        refine lk_iload_n dX9_goes_73 rfl rfl ?_
        refine lk_ineg dX9_goes_74 ?_
        refine lk_iload_n dX9_goes_75 rfl rfl ?_
        refine lk_iconst (v := 3) dX9_goes_76 (by decide) ?_
        rcases hV3 : lk_swp V2 k (z) with V3 | q1
        ·
          have nV3 : lk_near V V3 k := lk_near_tr nV2 (lk_swp_near hV3)
          have rV3 : lk_rok V3 := lk_swp_rok rV2 hV3
          refine lk_callV (o := 1) (as := [lk_vi (nI (k)), lk_vi (0 - (z)), lk_vi (z), lk_vi 3]) (S := []) dX9_goes_77 rfl vX9_flows rfl lX9_127 rfl rfl (Nat.le_of_ble_eq_true rfl) (tX9_flows l X (d + 1) σ τ (k := (k)) (a := (0 - (z))) (b := (z)) (s := 3) (V := V2) (T := T) (hk := hk6)) ?_
          refine lk_k3 ?_
          refine lk_cast (pc' := 80) (S' := [lk_vi (lk_flR (lk_flw V2 (k) (0 - (z)) (z) 3))]) rfl rfl rfl ?_
          refine lk_eqtop (y := 1) (by rw [← lk_swp_flw, hV3]; rfl) ?_
          refine lk_sg (σ' := (lk_ms σ V3 T)) (by rw [← lk_swp_flw, hV3]; rfl) ?_
          refine lk_if_eq (tgt := 87) dX9_goes_80 (by decide) (fun hh12 => absurd hh12 (by decide)) (fun hh12 => ?_)
          refine lk_iconst (v := 1) dX9_goes_83 (by decide) ?_
          refine lk_goto (tgt := 88) dX9_goes_84 (by decide) ?_
          refine lk_istore (L' := [(0, lk_vr 1 0), (1, lk_vi (nI (k))), (2, lk_vi 1), (3, lk_vi (z)), (4, lk_vi (V 6 (k))), (5, lk_vi (V 6 (k + 1))), (6, lk_vi (V 4 (k))), (7, lk_vi (V 5 (k))), (8, lk_vi 1)]) dX9_goes_88 (by decide +kernel) rfl ?_
          refine lk_goto (tgt := 134) dX9_goes_90 (by decide) ?_
          refine lk_aload_n dX9_goes_134 rfl rfl ?_
          refine lk_iload dX9_goes_135 rfl ?_
          refine lk_aload_n dX9_goes_137 rfl rfl ?_
          refine lk_getR (f := 0) dX9_goes_138 rfl fX9_9 (by decide) (by decide) ?_
          refine lk_bipush (v := 24) dX9_goes_141 (by decide) ?_
          refine lk_iload_n dX9_goes_143 rfl rfl ?_
          refine lk_iaddN (a := 24) (b := k) dX9_goes_144 ?_
          refine lk_iconst (v := 1) dX9_goes_145 (by decide) ?_
          refine lk_iaddN (a := 24 + k) (b := 1) dX9_goes_146 ?_
          refine lk_ialdN (f := 0) (i := 24 + k + 1) dX9_goes_147 rfl (by decide) rfl (by omega) (by decide) ?_
          refine lk_eqtop (y := (V3 6 (k + 1))) (lk_r6 (by omega) (by omega)) ?_
          refine lk_isub dX9_goes_148 ?_
          refine lk_putI (f := 6) dX9_goes_149 rfl fX9_137 (by decide) (by decide) ?_
          refine lk_sg (σ' := (lk_ms (lk_up σ 1 6 0 ((V 6 (k + 1)) - (V3 6 (k + 1)))) V3 T)) (lk_wf (by decide)) ?_
          refine lk_iload dX9_goes_152 rfl ?_
          refine lk_if_ne (tgt := 203) dX9_goes_154 (by decide) (fun hh13 => ?_) (fun hh13 => absurd hh13 (by decide))
          refine lk_iload dX9_goes_203 rfl ?_
          refine lk_iret .boolean dX9_goes_205 rfl rfl ?_
          rw [hQ]
          first | have h5 : V 5 k = 0 := h01.resolve_right (by assumption) | skip
          have hp : lk_pas V k true z = .inl V3 := by simp only [lk_pas]; simp [lk_sb, *, -Int32.zero_sub]
          rw [hp]
          exact ⟨rfl, rfl, 0, rfl⟩
        ·
          refine lk_callV (o := 1) (as := [lk_vi (nI (k)), lk_vi (0 - (z)), lk_vi (z), lk_vi 3]) (S := []) dX9_goes_77 rfl vX9_flows rfl lX9_127 rfl rfl (Nat.le_of_ble_eq_true rfl) (tX9_flows l X (d + 1) σ τ (k := (k)) (a := (0 - (z))) (b := (z)) (s := 3) (V := V2) (T := T) (hk := hk6)) ?_
          refine lk_k3 ?_
          refine lk_cast (pc' := 80) (S' := [lk_vi (lk_flR (lk_flw V2 (k) (0 - (z)) (z) 3))]) rfl rfl rfl ?_
          refine lk_eqtop (y := 0) (by rw [← lk_swp_flw, hV3]; rfl) ?_
          refine lk_sg (σ' := (lk_ms (lk_bar σ q1) V2 T)) (by rw [← lk_swp_flw, hV3]; rfl) ?_
          refine lk_if_eq (tgt := 87) dX9_goes_80 (by decide) (fun hh14 => ?_) (fun hh14 => absurd hh14 (by decide))
          refine lk_iconst (v := 0) dX9_goes_87 (by decide) ?_
          refine lk_istore (L' := [(0, lk_vr 1 0), (1, lk_vi (nI (k))), (2, lk_vi 1), (3, lk_vi (z)), (4, lk_vi (V 6 (k))), (5, lk_vi (V 6 (k + 1))), (6, lk_vi (V 4 (k))), (7, lk_vi (V 5 (k))), (8, lk_vi 0)]) dX9_goes_88 (by decide +kernel) rfl ?_
          refine lk_goto (tgt := 134) dX9_goes_90 (by decide) ?_
          refine lk_aload_n dX9_goes_134 rfl rfl ?_
          refine lk_iload dX9_goes_135 rfl ?_
          refine lk_aload_n dX9_goes_137 rfl rfl ?_
          refine lk_getR (f := 0) dX9_goes_138 rfl fX9_9 (by decide) (by decide) ?_
          refine lk_bipush (v := 24) dX9_goes_141 (by decide) ?_
          refine lk_iload_n dX9_goes_143 rfl rfl ?_
          refine lk_iaddN (a := 24) (b := k) dX9_goes_144 ?_
          refine lk_iconst (v := 1) dX9_goes_145 (by decide) ?_
          refine lk_iaddN (a := 24 + k) (b := 1) dX9_goes_146 ?_
          refine lk_ialdN (f := 0) (i := 24 + k + 1) dX9_goes_147 rfl (by decide) rfl (by omega) (by decide) ?_
          refine lk_eqtop (y := (V2 6 (k + 1))) (lk_r6 (by omega) (by omega)) ?_
          refine lk_isub dX9_goes_148 ?_
          refine lk_putI (f := 6) dX9_goes_149 rfl fX9_137 (by decide) (by decide) ?_
          refine lk_sg (σ' := (lk_ms (lk_up (lk_bar σ q1) 1 6 0 ((V 6 (k + 1)) - (V2 6 (k + 1)))) V2 T)) (lk_wf (by decide)) ?_
          refine lk_iload dX9_goes_152 rfl ?_
          refine lk_if_ne (tgt := 203) dX9_goes_154 (by decide) (fun hh15 => absurd hh15 (by decide)) (fun hh15 => ?_)
          refine lk_aload_n dX9_goes_157 rfl rfl ?_
          refine lk_getR (f := 0) dX9_goes_158 rfl fX9_9 (by decide) (by decide) ?_
          refine lk_bipush (v := 24) dX9_goes_161 (by decide) ?_
          refine lk_iload_n dX9_goes_163 rfl rfl ?_
          refine lk_iaddN (a := 24) (b := k) dX9_goes_164 ?_
          refine lk_iload dX9_goes_165 rfl ?_
          refine lk_iastN (f := 0) (i := 24 + k) (v := (V 6 (k))) dX9_goes_167 rfl (by decide) rfl (by omega) (by decide) ?_
          refine lk_sg (σ' := (lk_ms (lk_up (lk_bar σ q1) 1 6 0 ((V 6 (k + 1)) - (V2 6 (k + 1)))) (lk_ou V2 6 (k) (V 6 (k))) T)) (lk_w6 (by omega) (by omega)) ?_
          refine lk_aload_n dX9_goes_168 rfl rfl ?_
          refine lk_getR (f := 0) dX9_goes_169 rfl fX9_9 (by decide) (by decide) ?_
          refine lk_bipush (v := 24) dX9_goes_172 (by decide) ?_
          refine lk_iload_n dX9_goes_174 rfl rfl ?_
          refine lk_iaddN (a := 24) (b := k) dX9_goes_175 ?_
          refine lk_iconst (v := 1) dX9_goes_176 (by decide) ?_
          refine lk_iaddN (a := 24 + k) (b := 1) dX9_goes_177 ?_
          refine lk_iload dX9_goes_178 rfl ?_
          refine lk_iastN (f := 0) (i := 24 + k + 1) (v := (V 6 (k + 1))) dX9_goes_180 rfl (by decide) rfl (by omega) (by decide) ?_
          refine lk_sg (σ' := (lk_ms (lk_up (lk_bar σ q1) 1 6 0 ((V 6 (k + 1)) - (V2 6 (k + 1)))) (lk_ou (lk_ou V2 6 (k) (V 6 (k))) 6 (k + 1) (V 6 (k + 1))) T)) (lk_w6 (by omega) (by omega)) ?_
          refine lk_aload_n dX9_goes_181 rfl rfl ?_
          refine lk_getR (f := 0) dX9_goes_182 rfl fX9_9 (by decide) (by decide) ?_
          refine lk_bipush (v := 12) dX9_goes_185 (by decide) ?_
          refine lk_iload_n dX9_goes_187 rfl rfl ?_
          refine lk_iaddN (a := 12) (b := k) dX9_goes_188 ?_
          refine lk_iload dX9_goes_189 rfl ?_
          refine lk_iastN (f := 0) (i := 12 + k) (v := (V 4 (k))) dX9_goes_191 rfl (by decide) rfl (by omega) (by decide) ?_
          refine lk_sg (σ' := (lk_ms (lk_up (lk_bar σ q1) 1 6 0 ((V 6 (k + 1)) - (V2 6 (k + 1)))) (lk_ou (lk_ou (lk_ou V2 6 (k) (V 6 (k))) 6 (k + 1) (V 6 (k + 1))) 4 (k) (V 4 (k))) T)) (lk_w4 (by omega) (by omega)) ?_
          refine lk_aload_n dX9_goes_192 rfl rfl ?_
          refine lk_getR (f := 0) dX9_goes_193 rfl fX9_9 (by decide) (by decide) ?_
          refine lk_bipush (v := 18) dX9_goes_196 (by decide) ?_
          refine lk_iload_n dX9_goes_198 rfl rfl ?_
          refine lk_iaddN (a := 18) (b := k) dX9_goes_199 ?_
          refine lk_iload dX9_goes_200 rfl ?_
          refine lk_iastN (f := 0) (i := 18 + k) (v := (V 5 (k))) dX9_goes_202 rfl (by decide) rfl (by omega) (by decide) ?_
          refine lk_sg (σ' := (lk_ms (lk_up (lk_bar σ q1) 1 6 0 ((V 6 (k + 1)) - (V2 6 (k + 1)))) (lk_ou (lk_ou (lk_ou (lk_ou V2 6 (k) (V 6 (k))) 6 (k + 1) (V 6 (k + 1))) 4 (k) (V 4 (k))) 5 (k) (V 5 (k))) T)) (lk_w5 (by omega) (by omega)) ?_
          refine lk_iload dX9_goes_203 rfl ?_
          refine lk_iret .boolean dX9_goes_205 rfl rfl ?_
          rw [hQ]
          first | have h5 : V 5 k = 0 := h01.resolve_right (by assumption) | skip
          have hp : lk_pas V k true z = .inr q1 := by simp only [lk_pas]; simp [lk_sb, *, -Int32.zero_sub]
          rw [hp]
          refine ⟨rfl, rfl, ((V 6 (k + 1)) - (V2 6 (k + 1))), ?_⟩
          show _ = lk_ms (lk_up (lk_bar σ q1) 1 6 0 (((V 6 (k + 1)) - (V2 6 (k + 1))))) V T
          rw [lk_near_back nV2]
      ·
        refine lk_callV (o := 1) (as := [lk_vi (nI (k))]) (S := []) dX9_goes_65 rfl vX9_fills rfl lX9_134 rfl rfl (Nat.le_of_ble_eq_true rfl) (tX9_fills l X d σ τ (k := (k)) (V := V1) (T := T) (hk := hk6) (hr := rV1)) ?_
        refine lk_k3 ?_
        refine lk_cast (pc' := 68) (S' := [lk_vi (lk_flR (lk_fil V1 (k)))]) rfl rfl rfl ?_
        refine lk_eqtop (y := 0) (by rw [hV2]; rfl) ?_
        refine lk_sg (σ' := (lk_ms (lk_bar σ q1) V1 T)) (by rw [hV2]; rfl) ?_
        refine lk_if_eq (tgt := 87) dX9_goes_68 (by decide) (fun hh16 => ?_) (fun hh16 => absurd hh16 (by decide))
        refine lk_iconst (v := 0) dX9_goes_87 (by decide) ?_
        refine lk_istore (L' := [(0, lk_vr 1 0), (1, lk_vi (nI (k))), (2, lk_vi 1), (3, lk_vi (z)), (4, lk_vi (V 6 (k))), (5, lk_vi (V 6 (k + 1))), (6, lk_vi (V 4 (k))), (7, lk_vi (V 5 (k))), (8, lk_vi 0)]) dX9_goes_88 (by decide +kernel) rfl ?_
        refine lk_goto (tgt := 134) dX9_goes_90 (by decide) ?_
        refine lk_aload_n dX9_goes_134 rfl rfl ?_
        refine lk_iload dX9_goes_135 rfl ?_
        refine lk_aload_n dX9_goes_137 rfl rfl ?_
        refine lk_getR (f := 0) dX9_goes_138 rfl fX9_9 (by decide) (by decide) ?_
        refine lk_bipush (v := 24) dX9_goes_141 (by decide) ?_
        refine lk_iload_n dX9_goes_143 rfl rfl ?_
        refine lk_iaddN (a := 24) (b := k) dX9_goes_144 ?_
        refine lk_iconst (v := 1) dX9_goes_145 (by decide) ?_
        refine lk_iaddN (a := 24 + k) (b := 1) dX9_goes_146 ?_
        refine lk_ialdN (f := 0) (i := 24 + k + 1) dX9_goes_147 rfl (by decide) rfl (by omega) (by decide) ?_
        refine lk_eqtop (y := (V1 6 (k + 1))) (lk_r6 (by omega) (by omega)) ?_
        refine lk_isub dX9_goes_148 ?_
        refine lk_putI (f := 6) dX9_goes_149 rfl fX9_137 (by decide) (by decide) ?_
        refine lk_sg (σ' := (lk_ms (lk_up (lk_bar σ q1) 1 6 0 ((V 6 (k + 1)) - (V1 6 (k + 1)))) V1 T)) (lk_wf (by decide)) ?_
        refine lk_iload dX9_goes_152 rfl ?_
        refine lk_if_ne (tgt := 203) dX9_goes_154 (by decide) (fun hh17 => absurd hh17 (by decide)) (fun hh17 => ?_)
        refine lk_aload_n dX9_goes_157 rfl rfl ?_
        refine lk_getR (f := 0) dX9_goes_158 rfl fX9_9 (by decide) (by decide) ?_
        refine lk_bipush (v := 24) dX9_goes_161 (by decide) ?_
        refine lk_iload_n dX9_goes_163 rfl rfl ?_
        refine lk_iaddN (a := 24) (b := k) dX9_goes_164 ?_
        refine lk_iload dX9_goes_165 rfl ?_
        refine lk_iastN (f := 0) (i := 24 + k) (v := (V 6 (k))) dX9_goes_167 rfl (by decide) rfl (by omega) (by decide) ?_
        refine lk_sg (σ' := (lk_ms (lk_up (lk_bar σ q1) 1 6 0 ((V 6 (k + 1)) - (V1 6 (k + 1)))) (lk_ou V1 6 (k) (V 6 (k))) T)) (lk_w6 (by omega) (by omega)) ?_
        refine lk_aload_n dX9_goes_168 rfl rfl ?_
        refine lk_getR (f := 0) dX9_goes_169 rfl fX9_9 (by decide) (by decide) ?_
        refine lk_bipush (v := 24) dX9_goes_172 (by decide) ?_
        refine lk_iload_n dX9_goes_174 rfl rfl ?_
        refine lk_iaddN (a := 24) (b := k) dX9_goes_175 ?_
        refine lk_iconst (v := 1) dX9_goes_176 (by decide) ?_
        refine lk_iaddN (a := 24 + k) (b := 1) dX9_goes_177 ?_
        refine lk_iload dX9_goes_178 rfl ?_
        refine lk_iastN (f := 0) (i := 24 + k + 1) (v := (V 6 (k + 1))) dX9_goes_180 rfl (by decide) rfl (by omega) (by decide) ?_
        refine lk_sg (σ' := (lk_ms (lk_up (lk_bar σ q1) 1 6 0 ((V 6 (k + 1)) - (V1 6 (k + 1)))) (lk_ou (lk_ou V1 6 (k) (V 6 (k))) 6 (k + 1) (V 6 (k + 1))) T)) (lk_w6 (by omega) (by omega)) ?_
        refine lk_aload_n dX9_goes_181 rfl rfl ?_
        refine lk_getR (f := 0) dX9_goes_182 rfl fX9_9 (by decide) (by decide) ?_
        refine lk_bipush (v := 12) dX9_goes_185 (by decide) ?_
        refine lk_iload_n dX9_goes_187 rfl rfl ?_
        refine lk_iaddN (a := 12) (b := k) dX9_goes_188 ?_
        refine lk_iload dX9_goes_189 rfl ?_
        refine lk_iastN (f := 0) (i := 12 + k) (v := (V 4 (k))) dX9_goes_191 rfl (by decide) rfl (by omega) (by decide) ?_
        refine lk_sg (σ' := (lk_ms (lk_up (lk_bar σ q1) 1 6 0 ((V 6 (k + 1)) - (V1 6 (k + 1)))) (lk_ou (lk_ou (lk_ou V1 6 (k) (V 6 (k))) 6 (k + 1) (V 6 (k + 1))) 4 (k) (V 4 (k))) T)) (lk_w4 (by omega) (by omega)) ?_
        refine lk_aload_n dX9_goes_192 rfl rfl ?_
        refine lk_getR (f := 0) dX9_goes_193 rfl fX9_9 (by decide) (by decide) ?_
        refine lk_bipush (v := 18) dX9_goes_196 (by decide) ?_
        refine lk_iload_n dX9_goes_198 rfl rfl ?_
        refine lk_iaddN (a := 18) (b := k) dX9_goes_199 ?_
        refine lk_iload dX9_goes_200 rfl ?_
        refine lk_iastN (f := 0) (i := 18 + k) (v := (V 5 (k))) dX9_goes_202 rfl (by decide) rfl (by omega) (by decide) ?_
        refine lk_sg (σ' := (lk_ms (lk_up (lk_bar σ q1) 1 6 0 ((V 6 (k + 1)) - (V1 6 (k + 1)))) (lk_ou (lk_ou (lk_ou (lk_ou V1 6 (k) (V 6 (k))) 6 (k + 1) (V 6 (k + 1))) 4 (k) (V 4 (k))) 5 (k) (V 5 (k))) T)) (lk_w5 (by omega) (by omega)) ?_
        refine lk_iload dX9_goes_203 rfl ?_
        refine lk_iret .boolean dX9_goes_205 rfl rfl ?_
        rw [hQ]
        first | have h5 : V 5 k = 0 := h01.resolve_right (by assumption) | skip
        have hp : lk_pas V k true z = .inr q1 := by simp only [lk_pas]; simp [lk_sb, *, -Int32.zero_sub]
        rw [hp]
        refine ⟨rfl, rfl, ((V 6 (k + 1)) - (V1 6 (k + 1))), ?_⟩
        show _ = lk_ms (lk_up (lk_bar σ q1) 1 6 0 (((V 6 (k + 1)) - (V1 6 (k + 1))))) V T
        rw [lk_near_back nV1]
    ·
      refine lk_callV (o := 1) (as := [lk_vi (nI (k))]) (S := []) dX9_goes_57 rfl vX9_empties rfl lX9_131 rfl rfl (Nat.le_of_ble_eq_true rfl) (tX9_empties l X d σ τ (k := (k)) (V := V) (T := T) (hk := hk6) (hr := hr) (hp := (lk_lok_p (hV.2.2.2 k hk6)))) ?_
      refine lk_k3 ?_
      refine lk_cast (pc' := 60) (S' := [lk_vi (lk_flR (lk_emp V (k)))]) rfl rfl rfl ?_
      refine lk_eqtop (y := 0) (by rw [hV1]; rfl) ?_
      refine lk_sg (σ' := (lk_ms (lk_bar σ q1) V T)) (by rw [hV1]; rfl) ?_
      refine lk_if_eq (tgt := 87) dX9_goes_60 (by decide) (fun hh18 => ?_) (fun hh18 => absurd hh18 (by decide))
      refine lk_iconst (v := 0) dX9_goes_87 (by decide) ?_
      refine lk_istore (L' := [(0, lk_vr 1 0), (1, lk_vi (nI (k))), (2, lk_vi 1), (3, lk_vi (z)), (4, lk_vi (V 6 (k))), (5, lk_vi (V 6 (k + 1))), (6, lk_vi (V 4 (k))), (7, lk_vi (V 5 (k))), (8, lk_vi 0)]) dX9_goes_88 (by decide +kernel) rfl ?_
      refine lk_goto (tgt := 134) dX9_goes_90 (by decide) ?_
      refine lk_aload_n dX9_goes_134 rfl rfl ?_
      refine lk_iload dX9_goes_135 rfl ?_
      refine lk_aload_n dX9_goes_137 rfl rfl ?_
      refine lk_getR (f := 0) dX9_goes_138 rfl fX9_9 (by decide) (by decide) ?_
      refine lk_bipush (v := 24) dX9_goes_141 (by decide) ?_
      refine lk_iload_n dX9_goes_143 rfl rfl ?_
      refine lk_iaddN (a := 24) (b := k) dX9_goes_144 ?_
      refine lk_iconst (v := 1) dX9_goes_145 (by decide) ?_
      refine lk_iaddN (a := 24 + k) (b := 1) dX9_goes_146 ?_
      refine lk_ialdN (f := 0) (i := 24 + k + 1) dX9_goes_147 rfl (by decide) rfl (by omega) (by decide) ?_
      refine lk_eqtop (y := (V 6 (k + 1))) (lk_r6 (by omega) (by omega)) ?_
      refine lk_isub dX9_goes_148 ?_
      refine lk_putI (f := 6) dX9_goes_149 rfl fX9_137 (by decide) (by decide) ?_
      refine lk_sg (σ' := (lk_ms (lk_up (lk_bar σ q1) 1 6 0 ((V 6 (k + 1)) - (V 6 (k + 1)))) V T)) (lk_wf (by decide)) ?_
      refine lk_iload dX9_goes_152 rfl ?_
      refine lk_if_ne (tgt := 203) dX9_goes_154 (by decide) (fun hh19 => absurd hh19 (by decide)) (fun hh19 => ?_)
      refine lk_aload_n dX9_goes_157 rfl rfl ?_
      refine lk_getR (f := 0) dX9_goes_158 rfl fX9_9 (by decide) (by decide) ?_
      refine lk_bipush (v := 24) dX9_goes_161 (by decide) ?_
      refine lk_iload_n dX9_goes_163 rfl rfl ?_
      refine lk_iaddN (a := 24) (b := k) dX9_goes_164 ?_
      refine lk_iload dX9_goes_165 rfl ?_
      refine lk_iastN (f := 0) (i := 24 + k) (v := (V 6 (k))) dX9_goes_167 rfl (by decide) rfl (by omega) (by decide) ?_
      refine lk_sg (σ' := (lk_ms (lk_up (lk_bar σ q1) 1 6 0 ((V 6 (k + 1)) - (V 6 (k + 1)))) (lk_ou V 6 (k) (V 6 (k))) T)) (lk_w6 (by omega) (by omega)) ?_
      refine lk_aload_n dX9_goes_168 rfl rfl ?_
      refine lk_getR (f := 0) dX9_goes_169 rfl fX9_9 (by decide) (by decide) ?_
      refine lk_bipush (v := 24) dX9_goes_172 (by decide) ?_
      refine lk_iload_n dX9_goes_174 rfl rfl ?_
      refine lk_iaddN (a := 24) (b := k) dX9_goes_175 ?_
      refine lk_iconst (v := 1) dX9_goes_176 (by decide) ?_
      refine lk_iaddN (a := 24 + k) (b := 1) dX9_goes_177 ?_
      refine lk_iload dX9_goes_178 rfl ?_
      refine lk_iastN (f := 0) (i := 24 + k + 1) (v := (V 6 (k + 1))) dX9_goes_180 rfl (by decide) rfl (by omega) (by decide) ?_
      refine lk_sg (σ' := (lk_ms (lk_up (lk_bar σ q1) 1 6 0 ((V 6 (k + 1)) - (V 6 (k + 1)))) (lk_ou (lk_ou V 6 (k) (V 6 (k))) 6 (k + 1) (V 6 (k + 1))) T)) (lk_w6 (by omega) (by omega)) ?_
      refine lk_aload_n dX9_goes_181 rfl rfl ?_
      refine lk_getR (f := 0) dX9_goes_182 rfl fX9_9 (by decide) (by decide) ?_
      refine lk_bipush (v := 12) dX9_goes_185 (by decide) ?_
      refine lk_iload_n dX9_goes_187 rfl rfl ?_
      refine lk_iaddN (a := 12) (b := k) dX9_goes_188 ?_
      refine lk_iload dX9_goes_189 rfl ?_
      refine lk_iastN (f := 0) (i := 12 + k) (v := (V 4 (k))) dX9_goes_191 rfl (by decide) rfl (by omega) (by decide) ?_
      refine lk_sg (σ' := (lk_ms (lk_up (lk_bar σ q1) 1 6 0 ((V 6 (k + 1)) - (V 6 (k + 1)))) (lk_ou (lk_ou (lk_ou V 6 (k) (V 6 (k))) 6 (k + 1) (V 6 (k + 1))) 4 (k) (V 4 (k))) T)) (lk_w4 (by omega) (by omega)) ?_
      refine lk_aload_n dX9_goes_192 rfl rfl ?_
      refine lk_getR (f := 0) dX9_goes_193 rfl fX9_9 (by decide) (by decide) ?_
      refine lk_bipush (v := 18) dX9_goes_196 (by decide) ?_
      refine lk_iload_n dX9_goes_198 rfl rfl ?_
      refine lk_iaddN (a := 18) (b := k) dX9_goes_199 ?_
      refine lk_iload dX9_goes_200 rfl ?_
      refine lk_iastN (f := 0) (i := 18 + k) (v := (V 5 (k))) dX9_goes_202 rfl (by decide) rfl (by omega) (by decide) ?_
      refine lk_sg (σ' := (lk_ms (lk_up (lk_bar σ q1) 1 6 0 ((V 6 (k + 1)) - (V 6 (k + 1)))) (lk_ou (lk_ou (lk_ou (lk_ou V 6 (k) (V 6 (k))) 6 (k + 1) (V 6 (k + 1))) 4 (k) (V 4 (k))) 5 (k) (V 5 (k))) T)) (lk_w5 (by omega) (by omega)) ?_
      refine lk_iload dX9_goes_203 rfl ?_
      refine lk_iret .boolean dX9_goes_205 rfl rfl ?_
      rw [hQ]
      first | have h5 : V 5 k = 0 := h01.resolve_right (by assumption) | skip
      have hp : lk_pas V k true z = .inr q1 := by simp only [lk_pas]; simp [lk_sb, *, -Int32.zero_sub]
      rw [hp]
      refine ⟨rfl, rfl, ((V 6 (k + 1)) - (V 6 (k + 1))), ?_⟩
      show _ = lk_ms (lk_up (lk_bar σ q1) 1 6 0 (((V 6 (k + 1)) - (V 6 (k + 1))))) V T
      rw [lk_near_back (lk_near_rf V k)]

set_option maxHeartbeats 1000000 in
set_option maxRecDepth 100000 in
theorem tX9_goes_dn (l : Launch) (X : lk_G) (d : Nat) (σ : lk_N) (τ : lk_T) (V T : lk_O) (n k : Nat) (z : Int32) (hV : lk_cok V n) (hr : lk_rok V) (hk : k < n) : lk_Mt l X mX9_goes (d + 2) [lk_vr 1 0, lk_vi (nI (k)), lk_vi 0, lk_vi (z)] (lk_ms σ V T) τ (fun rr σ1 τ1 => rr = some (lk_vi (lk_flR (lk_pas V k false z))) ∧ τ1 = τ ∧ ∃ s : Int32, σ1 = lk_gS σ V T k (lk_pas V k false z) s) := by
  refine lk_met (L := [(0, lk_vr 1 0), (1, lk_vi (nI (k))), (2, lk_vi 0), (3, lk_vi (z))]) (by decide +kernel) (Nat.le_of_ble_eq_true rfl) rfl ?_
  obtain ⟨Q, hQ⟩ : ∃ Q : lk_Q, Q = fun rr σ1 τ1 => rr = some (lk_vi (lk_flR (lk_pas V k false z))) ∧ τ1 = τ ∧ ∃ s : Int32, σ1 = lk_gS σ V T k (lk_pas V k false z) s := ⟨_, rfl⟩
  rw [← hQ]
  have hk6 : k < 6 := Nat.lt_of_lt_of_le hk hV.2.2.1
  have h01 := (hV.2.2.2 k hk6).2.2.2.2.2.2
  refine lk_aload_n dX9_goes_0 rfl rfl ?_
  refine lk_getR (f := 0) dX9_goes_1 rfl fX9_9 (by decide) (by decide) ?_
  refine lk_bipush (v := 24) dX9_goes_4 (by decide) ?_
  refine lk_iload_n dX9_goes_6 rfl rfl ?_
  refine lk_iaddN (a := 24) (b := k) dX9_goes_7 ?_
  refine lk_ialdN (f := 0) (i := 24 + k) dX9_goes_8 rfl (by decide) rfl (by omega) (by decide) ?_
  refine lk_eqtop (y := (V 6 (k))) (lk_r6 (by omega) (by omega)) ?_
  refine lk_istore (L' := [(0, lk_vr 1 0), (1, lk_vi (nI (k))), (2, lk_vi 0), (3, lk_vi (z)), (4, lk_vi (V 6 (k)))]) dX9_goes_9 (by decide +kernel) rfl ?_
  refine lk_aload_n dX9_goes_11 rfl rfl ?_
  refine lk_getR (f := 0) dX9_goes_12 rfl fX9_9 (by decide) (by decide) ?_
  refine lk_bipush (v := 24) dX9_goes_15 (by decide) ?_
  refine lk_iload_n dX9_goes_17 rfl rfl ?_
  refine lk_iaddN (a := 24) (b := k) dX9_goes_18 ?_
  refine lk_iconst (v := 1) dX9_goes_19 (by decide) ?_
  refine lk_iaddN (a := 24 + k) (b := 1) dX9_goes_20 ?_
  refine lk_ialdN (f := 0) (i := 24 + k + 1) dX9_goes_21 rfl (by decide) rfl (by omega) (by decide) ?_
  refine lk_eqtop (y := (V 6 (k + 1))) (lk_r6 (by omega) (by omega)) ?_
  refine lk_istore (L' := [(0, lk_vr 1 0), (1, lk_vi (nI (k))), (2, lk_vi 0), (3, lk_vi (z)), (4, lk_vi (V 6 (k))), (5, lk_vi (V 6 (k + 1)))]) dX9_goes_22 (by decide +kernel) rfl ?_
  refine lk_aload_n dX9_goes_24 rfl rfl ?_
  refine lk_getR (f := 0) dX9_goes_25 rfl fX9_9 (by decide) (by decide) ?_
  refine lk_bipush (v := 12) dX9_goes_28 (by decide) ?_
  refine lk_iload_n dX9_goes_30 rfl rfl ?_
  refine lk_iaddN (a := 12) (b := k) dX9_goes_31 ?_
  refine lk_ialdN (f := 0) (i := 12 + k) dX9_goes_32 rfl (by decide) rfl (by omega) (by decide) ?_
  refine lk_eqtop (y := (V 4 (k))) (lk_r4 (by omega) (by omega)) ?_
  refine lk_istore (L' := [(0, lk_vr 1 0), (1, lk_vi (nI (k))), (2, lk_vi 0), (3, lk_vi (z)), (4, lk_vi (V 6 (k))), (5, lk_vi (V 6 (k + 1))), (6, lk_vi (V 4 (k)))]) dX9_goes_33 (by decide +kernel) rfl ?_
  refine lk_aload_n dX9_goes_35 rfl rfl ?_
  refine lk_getR (f := 0) dX9_goes_36 rfl fX9_9 (by decide) (by decide) ?_
  refine lk_bipush (v := 18) dX9_goes_39 (by decide) ?_
  refine lk_iload_n dX9_goes_41 rfl rfl ?_
  refine lk_iaddN (a := 18) (b := k) dX9_goes_42 ?_
  refine lk_ialdN (f := 0) (i := 18 + k) dX9_goes_43 rfl (by decide) rfl (by omega) (by decide) ?_
  refine lk_eqtop (y := (V 5 (k))) (lk_r5 (by omega) (by omega)) ?_
  refine lk_istore (L' := [(0, lk_vr 1 0), (1, lk_vi (nI (k))), (2, lk_vi 0), (3, lk_vi (z)), (4, lk_vi (V 6 (k))), (5, lk_vi (V 6 (k + 1))), (6, lk_vi (V 4 (k))), (7, lk_vi (V 5 (k)))]) dX9_goes_44 (by decide +kernel) rfl ?_
  refine lk_iload_n dX9_goes_46 rfl rfl ?_
  refine lk_if_eq (tgt := 93) dX9_goes_47 (by decide) (fun hh1 => ?_) (fun hh1 => absurd hh1 (by decide))
  refine lk_iload dX9_goes_93 rfl ?_
  refine lk_iconst (v := 1) dX9_goes_95 (by decide) ?_
  refine lk_icmp_eq (tgt := 107) dX9_goes_96 (by decide) (fun hh2 => ?_) (fun hh2 => ?_)
  ·
    refine lk_aload_n dX9_goes_107 rfl rfl ?_
    refine lk_iload_n dX9_goes_108 rfl rfl ?_
    rcases hV1 : lk_emp V k with V1 | q1
    ·
      have nV1 : lk_near V V1 k := lk_near_tr (lk_near_rf V k) (lk_emp_near hV1)
      have rV1 : lk_rok V1 := lk_emp_rok hr hk6 hV1
      refine lk_callV (o := 1) (as := [lk_vi (nI (k))]) (S := []) dX9_goes_109 rfl vX9_empties rfl lX9_131 rfl rfl (Nat.le_of_ble_eq_true rfl) (tX9_empties l X d σ τ (k := (k)) (V := V) (T := T) (hk := hk6) (hr := hr) (hp := (lk_lok_p (hV.2.2.2 k hk6)))) ?_
      refine lk_k3 ?_
      refine lk_cast (pc' := 112) (S' := [lk_vi (lk_flR (lk_emp V (k)))]) rfl rfl rfl ?_
      refine lk_eqtop (y := 1) (by rw [hV1]; rfl) ?_
      refine lk_sg (σ' := (lk_ms σ V1 T)) (by rw [hV1]; rfl) ?_
      refine lk_if_eq (tgt := 131) dX9_goes_112 (by decide) (fun hh3 => absurd hh3 (by decide)) (fun hh3 => ?_)
      refine lk_aload_n dX9_goes_115 rfl rfl ?_
      refine lk_iload_n dX9_goes_116 rfl rfl ?_
      refine lk_iload_n dX9_goes_117 rfl rfl ?_
      refine lk_iload_n dX9_goes_118 rfl rfl ?_
      refine lk_ineg dX9_goes_119 ?_
      refine lk_iconst (v := 3) dX9_goes_120 (by decide) ?_
      rcases hV2 : lk_swp V1 k (0 - (z)) with V2 | q1
      ·
        have nV2 : lk_near V V2 k := lk_near_tr nV1 (lk_swp_near hV2)
        have rV2 : lk_rok V2 := lk_swp_rok rV1 hV2
        refine lk_callV (o := 1) (as := [lk_vi (nI (k)), lk_vi (z), lk_vi (0 - (z)), lk_vi 3]) (S := []) dX9_goes_121 rfl vX9_flows rfl lX9_127 rfl rfl (Nat.le_of_ble_eq_true rfl) (tX9_flows l X (d + 1) σ τ (k := (k)) (a := (z)) (b := (0 - (z))) (s := 3) (V := V1) (T := T) (hk := hk6)) ?_
        refine lk_k3 ?_
        refine lk_cast (pc' := 124) (S' := [lk_vi (lk_flR (lk_flw V1 (k) (z) (0 - (z)) 3))]) rfl rfl rfl ?_
        refine lk_eqtop (y := 1) (by rw [← lk_swp_flw2, hV2]; rfl) ?_
        refine lk_sg (σ' := (lk_ms σ V2 T)) (by rw [← lk_swp_flw2, hV2]; rfl) ?_
        refine lk_if_eq (tgt := 131) dX9_goes_124 (by decide) (fun hh4 => absurd hh4 (by decide)) (fun hh4 => ?_)
        refine lk_iconst (v := 1) dX9_goes_127 (by decide) ?_
        refine lk_goto (tgt := 132) dX9_goes_128 (by decide) ?_
        refine lk_istore (L' := [(0, lk_vr 1 0), (1, lk_vi (nI (k))), (2, lk_vi 0), (3, lk_vi (z)), (4, lk_vi (V 6 (k))), (5, lk_vi (V 6 (k + 1))), (6, lk_vi (V 4 (k))), (7, lk_vi (V 5 (k))), (8, lk_vi 1)]) dX9_goes_132 (by decide +kernel) rfl ?_
        refine lk_aload_n dX9_goes_134 rfl rfl ?_
        refine lk_iload dX9_goes_135 rfl ?_
        refine lk_aload_n dX9_goes_137 rfl rfl ?_
        refine lk_getR (f := 0) dX9_goes_138 rfl fX9_9 (by decide) (by decide) ?_
        refine lk_bipush (v := 24) dX9_goes_141 (by decide) ?_
        refine lk_iload_n dX9_goes_143 rfl rfl ?_
        refine lk_iaddN (a := 24) (b := k) dX9_goes_144 ?_
        refine lk_iconst (v := 1) dX9_goes_145 (by decide) ?_
        refine lk_iaddN (a := 24 + k) (b := 1) dX9_goes_146 ?_
        refine lk_ialdN (f := 0) (i := 24 + k + 1) dX9_goes_147 rfl (by decide) rfl (by omega) (by decide) ?_
        refine lk_eqtop (y := (V2 6 (k + 1))) (lk_r6 (by omega) (by omega)) ?_
        refine lk_isub dX9_goes_148 ?_
        refine lk_putI (f := 6) dX9_goes_149 rfl fX9_137 (by decide) (by decide) ?_
        refine lk_sg (σ' := (lk_ms (lk_up σ 1 6 0 ((V 6 (k + 1)) - (V2 6 (k + 1)))) V2 T)) (lk_wf (by decide)) ?_
        refine lk_iload dX9_goes_152 rfl ?_
        refine lk_if_ne (tgt := 203) dX9_goes_154 (by decide) (fun hh5 => ?_) (fun hh5 => absurd hh5 (by decide))
        refine lk_iload dX9_goes_203 rfl ?_
        refine lk_iret .boolean dX9_goes_205 rfl rfl ?_
        rw [hQ]
        first | have h5 : V 5 k = 0 := h01.resolve_right (by assumption) | skip
        have hp : lk_pas V k false z = .inl V2 := by simp only [lk_pas]; simp [lk_sb, *, -Int32.zero_sub]
        rw [hp]
        exact ⟨rfl, rfl, 0, rfl⟩
      ·
        refine lk_callV (o := 1) (as := [lk_vi (nI (k)), lk_vi (z), lk_vi (0 - (z)), lk_vi 3]) (S := []) dX9_goes_121 rfl vX9_flows rfl lX9_127 rfl rfl (Nat.le_of_ble_eq_true rfl) (tX9_flows l X (d + 1) σ τ (k := (k)) (a := (z)) (b := (0 - (z))) (s := 3) (V := V1) (T := T) (hk := hk6)) ?_
        refine lk_k3 ?_
        refine lk_cast (pc' := 124) (S' := [lk_vi (lk_flR (lk_flw V1 (k) (z) (0 - (z)) 3))]) rfl rfl rfl ?_
        refine lk_eqtop (y := 0) (by rw [← lk_swp_flw2, hV2]; rfl) ?_
        refine lk_sg (σ' := (lk_ms (lk_bar σ q1) V1 T)) (by rw [← lk_swp_flw2, hV2]; rfl) ?_
        refine lk_if_eq (tgt := 131) dX9_goes_124 (by decide) (fun hh6 => ?_) (fun hh6 => absurd hh6 (by decide))
        refine lk_iconst (v := 0) dX9_goes_131 (by decide) ?_
        refine lk_istore (L' := [(0, lk_vr 1 0), (1, lk_vi (nI (k))), (2, lk_vi 0), (3, lk_vi (z)), (4, lk_vi (V 6 (k))), (5, lk_vi (V 6 (k + 1))), (6, lk_vi (V 4 (k))), (7, lk_vi (V 5 (k))), (8, lk_vi 0)]) dX9_goes_132 (by decide +kernel) rfl ?_
        refine lk_aload_n dX9_goes_134 rfl rfl ?_
        refine lk_iload dX9_goes_135 rfl ?_
        refine lk_aload_n dX9_goes_137 rfl rfl ?_
        refine lk_getR (f := 0) dX9_goes_138 rfl fX9_9 (by decide) (by decide) ?_
        refine lk_bipush (v := 24) dX9_goes_141 (by decide) ?_
        refine lk_iload_n dX9_goes_143 rfl rfl ?_
        refine lk_iaddN (a := 24) (b := k) dX9_goes_144 ?_
        refine lk_iconst (v := 1) dX9_goes_145 (by decide) ?_
        refine lk_iaddN (a := 24 + k) (b := 1) dX9_goes_146 ?_
        refine lk_ialdN (f := 0) (i := 24 + k + 1) dX9_goes_147 rfl (by decide) rfl (by omega) (by decide) ?_
        refine lk_eqtop (y := (V1 6 (k + 1))) (lk_r6 (by omega) (by omega)) ?_
        refine lk_isub dX9_goes_148 ?_
        refine lk_putI (f := 6) dX9_goes_149 rfl fX9_137 (by decide) (by decide) ?_
        refine lk_sg (σ' := (lk_ms (lk_up (lk_bar σ q1) 1 6 0 ((V 6 (k + 1)) - (V1 6 (k + 1)))) V1 T)) (lk_wf (by decide)) ?_
        refine lk_iload dX9_goes_152 rfl ?_
        refine lk_if_ne (tgt := 203) dX9_goes_154 (by decide) (fun hh7 => absurd hh7 (by decide)) (fun hh7 => ?_)
        refine lk_aload_n dX9_goes_157 rfl rfl ?_
        refine lk_getR (f := 0) dX9_goes_158 rfl fX9_9 (by decide) (by decide) ?_
        refine lk_bipush (v := 24) dX9_goes_161 (by decide) ?_
        refine lk_iload_n dX9_goes_163 rfl rfl ?_
        refine lk_iaddN (a := 24) (b := k) dX9_goes_164 ?_
        refine lk_iload dX9_goes_165 rfl ?_
        refine lk_iastN (f := 0) (i := 24 + k) (v := (V 6 (k))) dX9_goes_167 rfl (by decide) rfl (by omega) (by decide) ?_
        refine lk_sg (σ' := (lk_ms (lk_up (lk_bar σ q1) 1 6 0 ((V 6 (k + 1)) - (V1 6 (k + 1)))) (lk_ou V1 6 (k) (V 6 (k))) T)) (lk_w6 (by omega) (by omega)) ?_
        refine lk_aload_n dX9_goes_168 rfl rfl ?_
        refine lk_getR (f := 0) dX9_goes_169 rfl fX9_9 (by decide) (by decide) ?_
        refine lk_bipush (v := 24) dX9_goes_172 (by decide) ?_
        refine lk_iload_n dX9_goes_174 rfl rfl ?_
        refine lk_iaddN (a := 24) (b := k) dX9_goes_175 ?_
        refine lk_iconst (v := 1) dX9_goes_176 (by decide) ?_
        refine lk_iaddN (a := 24 + k) (b := 1) dX9_goes_177 ?_
        refine lk_iload dX9_goes_178 rfl ?_
        refine lk_iastN (f := 0) (i := 24 + k + 1) (v := (V 6 (k + 1))) dX9_goes_180 rfl (by decide) rfl (by omega) (by decide) ?_
        refine lk_sg (σ' := (lk_ms (lk_up (lk_bar σ q1) 1 6 0 ((V 6 (k + 1)) - (V1 6 (k + 1)))) (lk_ou (lk_ou V1 6 (k) (V 6 (k))) 6 (k + 1) (V 6 (k + 1))) T)) (lk_w6 (by omega) (by omega)) ?_
        refine lk_aload_n dX9_goes_181 rfl rfl ?_
        refine lk_getR (f := 0) dX9_goes_182 rfl fX9_9 (by decide) (by decide) ?_
        refine lk_bipush (v := 12) dX9_goes_185 (by decide) ?_
        refine lk_iload_n dX9_goes_187 rfl rfl ?_
        refine lk_iaddN (a := 12) (b := k) dX9_goes_188 ?_
        refine lk_iload dX9_goes_189 rfl ?_
        refine lk_iastN (f := 0) (i := 12 + k) (v := (V 4 (k))) dX9_goes_191 rfl (by decide) rfl (by omega) (by decide) ?_
        refine lk_sg (σ' := (lk_ms (lk_up (lk_bar σ q1) 1 6 0 ((V 6 (k + 1)) - (V1 6 (k + 1)))) (lk_ou (lk_ou (lk_ou V1 6 (k) (V 6 (k))) 6 (k + 1) (V 6 (k + 1))) 4 (k) (V 4 (k))) T)) (lk_w4 (by omega) (by omega)) ?_
        refine lk_aload_n dX9_goes_192 rfl rfl ?_
        refine lk_getR (f := 0) dX9_goes_193 rfl fX9_9 (by decide) (by decide) ?_
        refine lk_bipush (v := 18) dX9_goes_196 (by decide) ?_
        refine lk_iload_n dX9_goes_198 rfl rfl ?_
        refine lk_iaddN (a := 18) (b := k) dX9_goes_199 ?_
        refine lk_iload dX9_goes_200 rfl ?_
        refine lk_iastN (f := 0) (i := 18 + k) (v := (V 5 (k))) dX9_goes_202 rfl (by decide) rfl (by omega) (by decide) ?_
        refine lk_sg (σ' := (lk_ms (lk_up (lk_bar σ q1) 1 6 0 ((V 6 (k + 1)) - (V1 6 (k + 1)))) (lk_ou (lk_ou (lk_ou (lk_ou V1 6 (k) (V 6 (k))) 6 (k + 1) (V 6 (k + 1))) 4 (k) (V 4 (k))) 5 (k) (V 5 (k))) T)) (lk_w5 (by omega) (by omega)) ?_
        refine lk_iload dX9_goes_203 rfl ?_
        refine lk_iret .boolean dX9_goes_205 rfl rfl ?_
        rw [hQ]
        first | have h5 : V 5 k = 0 := h01.resolve_right (by assumption) | skip
        have hp : lk_pas V k false z = .inr q1 := by simp only [lk_pas]; simp [lk_sb, *, -Int32.zero_sub]
        rw [hp]
        refine ⟨rfl, rfl, ((V 6 (k + 1)) - (V1 6 (k + 1))), ?_⟩
        show _ = lk_ms (lk_up (lk_bar σ q1) 1 6 0 (((V 6 (k + 1)) - (V1 6 (k + 1))))) V T
        rw [lk_near_back nV1]
    ·
      refine lk_callV (o := 1) (as := [lk_vi (nI (k))]) (S := []) dX9_goes_109 rfl vX9_empties rfl lX9_131 rfl rfl (Nat.le_of_ble_eq_true rfl) (tX9_empties l X d σ τ (k := (k)) (V := V) (T := T) (hk := hk6) (hr := hr) (hp := (lk_lok_p (hV.2.2.2 k hk6)))) ?_
      refine lk_k3 ?_
      refine lk_cast (pc' := 112) (S' := [lk_vi (lk_flR (lk_emp V (k)))]) rfl rfl rfl ?_
      refine lk_eqtop (y := 0) (by rw [hV1]; rfl) ?_
      refine lk_sg (σ' := (lk_ms (lk_bar σ q1) V T)) (by rw [hV1]; rfl) ?_
      refine lk_if_eq (tgt := 131) dX9_goes_112 (by decide) (fun hh8 => ?_) (fun hh8 => absurd hh8 (by decide))
      refine lk_iconst (v := 0) dX9_goes_131 (by decide) ?_
      refine lk_istore (L' := [(0, lk_vr 1 0), (1, lk_vi (nI (k))), (2, lk_vi 0), (3, lk_vi (z)), (4, lk_vi (V 6 (k))), (5, lk_vi (V 6 (k + 1))), (6, lk_vi (V 4 (k))), (7, lk_vi (V 5 (k))), (8, lk_vi 0)]) dX9_goes_132 (by decide +kernel) rfl ?_
      refine lk_aload_n dX9_goes_134 rfl rfl ?_
      refine lk_iload dX9_goes_135 rfl ?_
      refine lk_aload_n dX9_goes_137 rfl rfl ?_
      refine lk_getR (f := 0) dX9_goes_138 rfl fX9_9 (by decide) (by decide) ?_
      refine lk_bipush (v := 24) dX9_goes_141 (by decide) ?_
      refine lk_iload_n dX9_goes_143 rfl rfl ?_
      refine lk_iaddN (a := 24) (b := k) dX9_goes_144 ?_
      refine lk_iconst (v := 1) dX9_goes_145 (by decide) ?_
      refine lk_iaddN (a := 24 + k) (b := 1) dX9_goes_146 ?_
      refine lk_ialdN (f := 0) (i := 24 + k + 1) dX9_goes_147 rfl (by decide) rfl (by omega) (by decide) ?_
      refine lk_eqtop (y := (V 6 (k + 1))) (lk_r6 (by omega) (by omega)) ?_
      refine lk_isub dX9_goes_148 ?_
      refine lk_putI (f := 6) dX9_goes_149 rfl fX9_137 (by decide) (by decide) ?_
      refine lk_sg (σ' := (lk_ms (lk_up (lk_bar σ q1) 1 6 0 ((V 6 (k + 1)) - (V 6 (k + 1)))) V T)) (lk_wf (by decide)) ?_
      refine lk_iload dX9_goes_152 rfl ?_
      refine lk_if_ne (tgt := 203) dX9_goes_154 (by decide) (fun hh9 => absurd hh9 (by decide)) (fun hh9 => ?_)
      refine lk_aload_n dX9_goes_157 rfl rfl ?_
      refine lk_getR (f := 0) dX9_goes_158 rfl fX9_9 (by decide) (by decide) ?_
      refine lk_bipush (v := 24) dX9_goes_161 (by decide) ?_
      refine lk_iload_n dX9_goes_163 rfl rfl ?_
      refine lk_iaddN (a := 24) (b := k) dX9_goes_164 ?_
      refine lk_iload dX9_goes_165 rfl ?_
      refine lk_iastN (f := 0) (i := 24 + k) (v := (V 6 (k))) dX9_goes_167 rfl (by decide) rfl (by omega) (by decide) ?_
      refine lk_sg (σ' := (lk_ms (lk_up (lk_bar σ q1) 1 6 0 ((V 6 (k + 1)) - (V 6 (k + 1)))) (lk_ou V 6 (k) (V 6 (k))) T)) (lk_w6 (by omega) (by omega)) ?_
      refine lk_aload_n dX9_goes_168 rfl rfl ?_
      refine lk_getR (f := 0) dX9_goes_169 rfl fX9_9 (by decide) (by decide) ?_
      refine lk_bipush (v := 24) dX9_goes_172 (by decide) ?_
      refine lk_iload_n dX9_goes_174 rfl rfl ?_
      refine lk_iaddN (a := 24) (b := k) dX9_goes_175 ?_
      refine lk_iconst (v := 1) dX9_goes_176 (by decide) ?_
      refine lk_iaddN (a := 24 + k) (b := 1) dX9_goes_177 ?_
      refine lk_iload dX9_goes_178 rfl ?_
      refine lk_iastN (f := 0) (i := 24 + k + 1) (v := (V 6 (k + 1))) dX9_goes_180 rfl (by decide) rfl (by omega) (by decide) ?_
      refine lk_sg (σ' := (lk_ms (lk_up (lk_bar σ q1) 1 6 0 ((V 6 (k + 1)) - (V 6 (k + 1)))) (lk_ou (lk_ou V 6 (k) (V 6 (k))) 6 (k + 1) (V 6 (k + 1))) T)) (lk_w6 (by omega) (by omega)) ?_
      refine lk_aload_n dX9_goes_181 rfl rfl ?_
      refine lk_getR (f := 0) dX9_goes_182 rfl fX9_9 (by decide) (by decide) ?_
      refine lk_bipush (v := 12) dX9_goes_185 (by decide) ?_
      refine lk_iload_n dX9_goes_187 rfl rfl ?_
      refine lk_iaddN (a := 12) (b := k) dX9_goes_188 ?_
      refine lk_iload dX9_goes_189 rfl ?_
      refine lk_iastN (f := 0) (i := 12 + k) (v := (V 4 (k))) dX9_goes_191 rfl (by decide) rfl (by omega) (by decide) ?_
      refine lk_sg (σ' := (lk_ms (lk_up (lk_bar σ q1) 1 6 0 ((V 6 (k + 1)) - (V 6 (k + 1)))) (lk_ou (lk_ou (lk_ou V 6 (k) (V 6 (k))) 6 (k + 1) (V 6 (k + 1))) 4 (k) (V 4 (k))) T)) (lk_w4 (by omega) (by omega)) ?_
      refine lk_aload_n dX9_goes_192 rfl rfl ?_
      refine lk_getR (f := 0) dX9_goes_193 rfl fX9_9 (by decide) (by decide) ?_
      refine lk_bipush (v := 18) dX9_goes_196 (by decide) ?_
      refine lk_iload_n dX9_goes_198 rfl rfl ?_
      refine lk_iaddN (a := 18) (b := k) dX9_goes_199 ?_
      refine lk_iload dX9_goes_200 rfl ?_
      refine lk_iastN (f := 0) (i := 18 + k) (v := (V 5 (k))) dX9_goes_202 rfl (by decide) rfl (by omega) (by decide) ?_
      refine lk_sg (σ' := (lk_ms (lk_up (lk_bar σ q1) 1 6 0 ((V 6 (k + 1)) - (V 6 (k + 1)))) (lk_ou (lk_ou (lk_ou (lk_ou V 6 (k) (V 6 (k))) 6 (k + 1) (V 6 (k + 1))) 4 (k) (V 4 (k))) 5 (k) (V 5 (k))) T)) (lk_w5 (by omega) (by omega)) ?_
      refine lk_iload dX9_goes_203 rfl ?_
      refine lk_iret .boolean dX9_goes_205 rfl rfl ?_
      rw [hQ]
      first | have h5 : V 5 k = 0 := h01.resolve_right (by assumption) | skip
      have hp : lk_pas V k false z = .inr q1 := by simp only [lk_pas]; simp [lk_sb, *, -Int32.zero_sub]
      rw [hp]
      refine ⟨rfl, rfl, ((V 6 (k + 1)) - (V 6 (k + 1))), ?_⟩
      show _ = lk_ms (lk_up (lk_bar σ q1) 1 6 0 (((V 6 (k + 1)) - (V 6 (k + 1))))) V T
      rw [lk_near_back (lk_near_rf V k)]
  ·
    refine lk_aload_n dX9_goes_99 rfl rfl ?_
    refine lk_iload_n dX9_goes_100 rfl rfl ?_
    rcases hV1 : lk_fil V k with V1 | q1
    ·
      have nV1 : lk_near V V1 k := lk_near_tr (lk_near_rf V k) (lk_fil_near hV1)
      have rV1 : lk_rok V1 := lk_fil_rok hr hk6 hV1
      refine lk_callV (o := 1) (as := [lk_vi (nI (k))]) (S := []) dX9_goes_101 rfl vX9_fills rfl lX9_134 rfl rfl (Nat.le_of_ble_eq_true rfl) (tX9_fills l X d σ τ (k := (k)) (V := V) (T := T) (hk := hk6) (hr := hr)) ?_
      refine lk_k3 ?_
      refine lk_cast (pc' := 104) (S' := [lk_vi (lk_flR (lk_fil V (k)))]) rfl rfl rfl ?_
      refine lk_eqtop (y := 1) (by rw [hV1]; rfl) ?_
      refine lk_sg (σ' := (lk_ms σ V1 T)) (by rw [hV1]; rfl) ?_
      refine lk_if_eq (tgt := 131) dX9_goes_104 (by decide) (fun hh10 => absurd hh10 (by decide)) (fun hh10 => ?_)
      refine lk_aload_n dX9_goes_107 rfl rfl ?_
      refine lk_iload_n dX9_goes_108 rfl rfl ?_
      rcases hV2 : lk_emp V1 k with V2 | q1
      ·
        have nV2 : lk_near V V2 k := lk_near_tr nV1 (lk_emp_near hV2)
        have rV2 : lk_rok V2 := lk_emp_rok rV1 hk6 hV2
        refine lk_callV (o := 1) (as := [lk_vi (nI (k))]) (S := []) dX9_goes_109 rfl vX9_empties rfl lX9_131 rfl rfl (Nat.le_of_ble_eq_true rfl) (tX9_empties l X d σ τ (k := (k)) (V := V1) (T := T) (hk := hk6) (hr := rV1) (hp := (by rw [lk_near_3 nV1]; exact lk_lok_p (hV.2.2.2 k hk6)))) ?_
        refine lk_k3 ?_
        refine lk_cast (pc' := 112) (S' := [lk_vi (lk_flR (lk_emp V1 (k)))]) rfl rfl rfl ?_
        refine lk_eqtop (y := 1) (by rw [hV2]; rfl) ?_
        refine lk_sg (σ' := (lk_ms σ V2 T)) (by rw [hV2]; rfl) ?_
        refine lk_if_eq (tgt := 131) dX9_goes_112 (by decide) (fun hh11 => absurd hh11 (by decide)) (fun hh11 => ?_)
        refine lk_aload_n dX9_goes_115 rfl rfl ?_
        refine lk_iload_n dX9_goes_116 rfl rfl ?_
        refine lk_iload_n dX9_goes_117 rfl rfl ?_
        refine lk_iload_n dX9_goes_118 rfl rfl ?_
        refine lk_ineg dX9_goes_119 ?_
        refine lk_iconst (v := 3) dX9_goes_120 (by decide) ?_
        rcases hV3 : lk_swp V2 k (0 - (z)) with V3 | q1
        ·
          have nV3 : lk_near V V3 k := lk_near_tr nV2 (lk_swp_near hV3)
          have rV3 : lk_rok V3 := lk_swp_rok rV2 hV3
          refine lk_callV (o := 1) (as := [lk_vi (nI (k)), lk_vi (z), lk_vi (0 - (z)), lk_vi 3]) (S := []) dX9_goes_121 rfl vX9_flows rfl lX9_127 rfl rfl (Nat.le_of_ble_eq_true rfl) (tX9_flows l X (d + 1) σ τ (k := (k)) (a := (z)) (b := (0 - (z))) (s := 3) (V := V2) (T := T) (hk := hk6)) ?_
          refine lk_k3 ?_
          refine lk_cast (pc' := 124) (S' := [lk_vi (lk_flR (lk_flw V2 (k) (z) (0 - (z)) 3))]) rfl rfl rfl ?_
          refine lk_eqtop (y := 1) (by rw [← lk_swp_flw2, hV3]; rfl) ?_
          refine lk_sg (σ' := (lk_ms σ V3 T)) (by rw [← lk_swp_flw2, hV3]; rfl) ?_
          refine lk_if_eq (tgt := 131) dX9_goes_124 (by decide) (fun hh12 => absurd hh12 (by decide)) (fun hh12 => ?_)
          refine lk_iconst (v := 1) dX9_goes_127 (by decide) ?_
          refine lk_goto (tgt := 132) dX9_goes_128 (by decide) ?_
          refine lk_istore (L' := [(0, lk_vr 1 0), (1, lk_vi (nI (k))), (2, lk_vi 0), (3, lk_vi (z)), (4, lk_vi (V 6 (k))), (5, lk_vi (V 6 (k + 1))), (6, lk_vi (V 4 (k))), (7, lk_vi (V 5 (k))), (8, lk_vi 1)]) dX9_goes_132 (by decide +kernel) rfl ?_
          refine lk_aload_n dX9_goes_134 rfl rfl ?_
          refine lk_iload dX9_goes_135 rfl ?_
          refine lk_aload_n dX9_goes_137 rfl rfl ?_
          refine lk_getR (f := 0) dX9_goes_138 rfl fX9_9 (by decide) (by decide) ?_
          refine lk_bipush (v := 24) dX9_goes_141 (by decide) ?_
          refine lk_iload_n dX9_goes_143 rfl rfl ?_
          refine lk_iaddN (a := 24) (b := k) dX9_goes_144 ?_
          refine lk_iconst (v := 1) dX9_goes_145 (by decide) ?_
          refine lk_iaddN (a := 24 + k) (b := 1) dX9_goes_146 ?_
          refine lk_ialdN (f := 0) (i := 24 + k + 1) dX9_goes_147 rfl (by decide) rfl (by omega) (by decide) ?_
          refine lk_eqtop (y := (V3 6 (k + 1))) (lk_r6 (by omega) (by omega)) ?_
          refine lk_isub dX9_goes_148 ?_
          refine lk_putI (f := 6) dX9_goes_149 rfl fX9_137 (by decide) (by decide) ?_
          refine lk_sg (σ' := (lk_ms (lk_up σ 1 6 0 ((V 6 (k + 1)) - (V3 6 (k + 1)))) V3 T)) (lk_wf (by decide)) ?_
          refine lk_iload dX9_goes_152 rfl ?_
          refine lk_if_ne (tgt := 203) dX9_goes_154 (by decide) (fun hh13 => ?_) (fun hh13 => absurd hh13 (by decide))
          refine lk_iload dX9_goes_203 rfl ?_
          refine lk_iret .boolean dX9_goes_205 rfl rfl ?_
          rw [hQ]
          first | have h5 : V 5 k = 0 := h01.resolve_right (by assumption) | skip
          have hp : lk_pas V k false z = .inl V3 := by simp only [lk_pas]; simp [lk_sb, *, -Int32.zero_sub]
          rw [hp]
          exact ⟨rfl, rfl, 0, rfl⟩
        ·
          refine lk_callV (o := 1) (as := [lk_vi (nI (k)), lk_vi (z), lk_vi (0 - (z)), lk_vi 3]) (S := []) dX9_goes_121 rfl vX9_flows rfl lX9_127 rfl rfl (Nat.le_of_ble_eq_true rfl) (tX9_flows l X (d + 1) σ τ (k := (k)) (a := (z)) (b := (0 - (z))) (s := 3) (V := V2) (T := T) (hk := hk6)) ?_
          refine lk_k3 ?_
          refine lk_cast (pc' := 124) (S' := [lk_vi (lk_flR (lk_flw V2 (k) (z) (0 - (z)) 3))]) rfl rfl rfl ?_
          refine lk_eqtop (y := 0) (by rw [← lk_swp_flw2, hV3]; rfl) ?_
          refine lk_sg (σ' := (lk_ms (lk_bar σ q1) V2 T)) (by rw [← lk_swp_flw2, hV3]; rfl) ?_
          refine lk_if_eq (tgt := 131) dX9_goes_124 (by decide) (fun hh14 => ?_) (fun hh14 => absurd hh14 (by decide))
          refine lk_iconst (v := 0) dX9_goes_131 (by decide) ?_
          refine lk_istore (L' := [(0, lk_vr 1 0), (1, lk_vi (nI (k))), (2, lk_vi 0), (3, lk_vi (z)), (4, lk_vi (V 6 (k))), (5, lk_vi (V 6 (k + 1))), (6, lk_vi (V 4 (k))), (7, lk_vi (V 5 (k))), (8, lk_vi 0)]) dX9_goes_132 (by decide +kernel) rfl ?_
          refine lk_aload_n dX9_goes_134 rfl rfl ?_
          refine lk_iload dX9_goes_135 rfl ?_
          refine lk_aload_n dX9_goes_137 rfl rfl ?_
          refine lk_getR (f := 0) dX9_goes_138 rfl fX9_9 (by decide) (by decide) ?_
          refine lk_bipush (v := 24) dX9_goes_141 (by decide) ?_
          refine lk_iload_n dX9_goes_143 rfl rfl ?_
          refine lk_iaddN (a := 24) (b := k) dX9_goes_144 ?_
          refine lk_iconst (v := 1) dX9_goes_145 (by decide) ?_
          refine lk_iaddN (a := 24 + k) (b := 1) dX9_goes_146 ?_
          refine lk_ialdN (f := 0) (i := 24 + k + 1) dX9_goes_147 rfl (by decide) rfl (by omega) (by decide) ?_
          refine lk_eqtop (y := (V2 6 (k + 1))) (lk_r6 (by omega) (by omega)) ?_
          refine lk_isub dX9_goes_148 ?_
          refine lk_putI (f := 6) dX9_goes_149 rfl fX9_137 (by decide) (by decide) ?_
          refine lk_sg (σ' := (lk_ms (lk_up (lk_bar σ q1) 1 6 0 ((V 6 (k + 1)) - (V2 6 (k + 1)))) V2 T)) (lk_wf (by decide)) ?_
          refine lk_iload dX9_goes_152 rfl ?_
          refine lk_if_ne (tgt := 203) dX9_goes_154 (by decide) (fun hh15 => absurd hh15 (by decide)) (fun hh15 => ?_)
          refine lk_aload_n dX9_goes_157 rfl rfl ?_
          refine lk_getR (f := 0) dX9_goes_158 rfl fX9_9 (by decide) (by decide) ?_
          refine lk_bipush (v := 24) dX9_goes_161 (by decide) ?_
          refine lk_iload_n dX9_goes_163 rfl rfl ?_
          refine lk_iaddN (a := 24) (b := k) dX9_goes_164 ?_
          refine lk_iload dX9_goes_165 rfl ?_
          refine lk_iastN (f := 0) (i := 24 + k) (v := (V 6 (k))) dX9_goes_167 rfl (by decide) rfl (by omega) (by decide) ?_
          refine lk_sg (σ' := (lk_ms (lk_up (lk_bar σ q1) 1 6 0 ((V 6 (k + 1)) - (V2 6 (k + 1)))) (lk_ou V2 6 (k) (V 6 (k))) T)) (lk_w6 (by omega) (by omega)) ?_
          refine lk_aload_n dX9_goes_168 rfl rfl ?_
          refine lk_getR (f := 0) dX9_goes_169 rfl fX9_9 (by decide) (by decide) ?_
          refine lk_bipush (v := 24) dX9_goes_172 (by decide) ?_
          refine lk_iload_n dX9_goes_174 rfl rfl ?_
          refine lk_iaddN (a := 24) (b := k) dX9_goes_175 ?_
          refine lk_iconst (v := 1) dX9_goes_176 (by decide) ?_
          refine lk_iaddN (a := 24 + k) (b := 1) dX9_goes_177 ?_
          refine lk_iload dX9_goes_178 rfl ?_
          refine lk_iastN (f := 0) (i := 24 + k + 1) (v := (V 6 (k + 1))) dX9_goes_180 rfl (by decide) rfl (by omega) (by decide) ?_
          refine lk_sg (σ' := (lk_ms (lk_up (lk_bar σ q1) 1 6 0 ((V 6 (k + 1)) - (V2 6 (k + 1)))) (lk_ou (lk_ou V2 6 (k) (V 6 (k))) 6 (k + 1) (V 6 (k + 1))) T)) (lk_w6 (by omega) (by omega)) ?_
          refine lk_aload_n dX9_goes_181 rfl rfl ?_
          refine lk_getR (f := 0) dX9_goes_182 rfl fX9_9 (by decide) (by decide) ?_
          refine lk_bipush (v := 12) dX9_goes_185 (by decide) ?_
          refine lk_iload_n dX9_goes_187 rfl rfl ?_
          refine lk_iaddN (a := 12) (b := k) dX9_goes_188 ?_
          refine lk_iload dX9_goes_189 rfl ?_
          refine lk_iastN (f := 0) (i := 12 + k) (v := (V 4 (k))) dX9_goes_191 rfl (by decide) rfl (by omega) (by decide) ?_
          refine lk_sg (σ' := (lk_ms (lk_up (lk_bar σ q1) 1 6 0 ((V 6 (k + 1)) - (V2 6 (k + 1)))) (lk_ou (lk_ou (lk_ou V2 6 (k) (V 6 (k))) 6 (k + 1) (V 6 (k + 1))) 4 (k) (V 4 (k))) T)) (lk_w4 (by omega) (by omega)) ?_
          refine lk_aload_n dX9_goes_192 rfl rfl ?_
          refine lk_getR (f := 0) dX9_goes_193 rfl fX9_9 (by decide) (by decide) ?_
          refine lk_bipush (v := 18) dX9_goes_196 (by decide) ?_
          refine lk_iload_n dX9_goes_198 rfl rfl ?_
          refine lk_iaddN (a := 18) (b := k) dX9_goes_199 ?_
          refine lk_iload dX9_goes_200 rfl ?_
          refine lk_iastN (f := 0) (i := 18 + k) (v := (V 5 (k))) dX9_goes_202 rfl (by decide) rfl (by omega) (by decide) ?_
          refine lk_sg (σ' := (lk_ms (lk_up (lk_bar σ q1) 1 6 0 ((V 6 (k + 1)) - (V2 6 (k + 1)))) (lk_ou (lk_ou (lk_ou (lk_ou V2 6 (k) (V 6 (k))) 6 (k + 1) (V 6 (k + 1))) 4 (k) (V 4 (k))) 5 (k) (V 5 (k))) T)) (lk_w5 (by omega) (by omega)) ?_
          refine lk_iload dX9_goes_203 rfl ?_
          refine lk_iret .boolean dX9_goes_205 rfl rfl ?_
          rw [hQ]
          first | have h5 : V 5 k = 0 := h01.resolve_right (by assumption) | skip
          have hp : lk_pas V k false z = .inr q1 := by simp only [lk_pas]; simp [lk_sb, *, -Int32.zero_sub]
          rw [hp]
          refine ⟨rfl, rfl, ((V 6 (k + 1)) - (V2 6 (k + 1))), ?_⟩
          show _ = lk_ms (lk_up (lk_bar σ q1) 1 6 0 (((V 6 (k + 1)) - (V2 6 (k + 1))))) V T
          rw [lk_near_back nV2]
      ·
        refine lk_callV (o := 1) (as := [lk_vi (nI (k))]) (S := []) dX9_goes_109 rfl vX9_empties rfl lX9_131 rfl rfl (Nat.le_of_ble_eq_true rfl) (tX9_empties l X d σ τ (k := (k)) (V := V1) (T := T) (hk := hk6) (hr := rV1) (hp := (by rw [lk_near_3 nV1]; exact lk_lok_p (hV.2.2.2 k hk6)))) ?_
        refine lk_k3 ?_
        refine lk_cast (pc' := 112) (S' := [lk_vi (lk_flR (lk_emp V1 (k)))]) rfl rfl rfl ?_
        refine lk_eqtop (y := 0) (by rw [hV2]; rfl) ?_
        refine lk_sg (σ' := (lk_ms (lk_bar σ q1) V1 T)) (by rw [hV2]; rfl) ?_
        refine lk_if_eq (tgt := 131) dX9_goes_112 (by decide) (fun hh16 => ?_) (fun hh16 => absurd hh16 (by decide))
        refine lk_iconst (v := 0) dX9_goes_131 (by decide) ?_
        refine lk_istore (L' := [(0, lk_vr 1 0), (1, lk_vi (nI (k))), (2, lk_vi 0), (3, lk_vi (z)), (4, lk_vi (V 6 (k))), (5, lk_vi (V 6 (k + 1))), (6, lk_vi (V 4 (k))), (7, lk_vi (V 5 (k))), (8, lk_vi 0)]) dX9_goes_132 (by decide +kernel) rfl ?_
        refine lk_aload_n dX9_goes_134 rfl rfl ?_
        refine lk_iload dX9_goes_135 rfl ?_
        refine lk_aload_n dX9_goes_137 rfl rfl ?_
        refine lk_getR (f := 0) dX9_goes_138 rfl fX9_9 (by decide) (by decide) ?_
        refine lk_bipush (v := 24) dX9_goes_141 (by decide) ?_
        refine lk_iload_n dX9_goes_143 rfl rfl ?_
        refine lk_iaddN (a := 24) (b := k) dX9_goes_144 ?_
        refine lk_iconst (v := 1) dX9_goes_145 (by decide) ?_
        refine lk_iaddN (a := 24 + k) (b := 1) dX9_goes_146 ?_
        refine lk_ialdN (f := 0) (i := 24 + k + 1) dX9_goes_147 rfl (by decide) rfl (by omega) (by decide) ?_
        refine lk_eqtop (y := (V1 6 (k + 1))) (lk_r6 (by omega) (by omega)) ?_
        refine lk_isub dX9_goes_148 ?_
        refine lk_putI (f := 6) dX9_goes_149 rfl fX9_137 (by decide) (by decide) ?_
        refine lk_sg (σ' := (lk_ms (lk_up (lk_bar σ q1) 1 6 0 ((V 6 (k + 1)) - (V1 6 (k + 1)))) V1 T)) (lk_wf (by decide)) ?_
        refine lk_iload dX9_goes_152 rfl ?_
        refine lk_if_ne (tgt := 203) dX9_goes_154 (by decide) (fun hh17 => absurd hh17 (by decide)) (fun hh17 => ?_)
        refine lk_aload_n dX9_goes_157 rfl rfl ?_
        refine lk_getR (f := 0) dX9_goes_158 rfl fX9_9 (by decide) (by decide) ?_
        refine lk_bipush (v := 24) dX9_goes_161 (by decide) ?_
        refine lk_iload_n dX9_goes_163 rfl rfl ?_
        refine lk_iaddN (a := 24) (b := k) dX9_goes_164 ?_
        refine lk_iload dX9_goes_165 rfl ?_
        refine lk_iastN (f := 0) (i := 24 + k) (v := (V 6 (k))) dX9_goes_167 rfl (by decide) rfl (by omega) (by decide) ?_
        refine lk_sg (σ' := (lk_ms (lk_up (lk_bar σ q1) 1 6 0 ((V 6 (k + 1)) - (V1 6 (k + 1)))) (lk_ou V1 6 (k) (V 6 (k))) T)) (lk_w6 (by omega) (by omega)) ?_
        refine lk_aload_n dX9_goes_168 rfl rfl ?_
        refine lk_getR (f := 0) dX9_goes_169 rfl fX9_9 (by decide) (by decide) ?_
        refine lk_bipush (v := 24) dX9_goes_172 (by decide) ?_
        refine lk_iload_n dX9_goes_174 rfl rfl ?_
        refine lk_iaddN (a := 24) (b := k) dX9_goes_175 ?_
        refine lk_iconst (v := 1) dX9_goes_176 (by decide) ?_
        refine lk_iaddN (a := 24 + k) (b := 1) dX9_goes_177 ?_
        refine lk_iload dX9_goes_178 rfl ?_
        refine lk_iastN (f := 0) (i := 24 + k + 1) (v := (V 6 (k + 1))) dX9_goes_180 rfl (by decide) rfl (by omega) (by decide) ?_
        refine lk_sg (σ' := (lk_ms (lk_up (lk_bar σ q1) 1 6 0 ((V 6 (k + 1)) - (V1 6 (k + 1)))) (lk_ou (lk_ou V1 6 (k) (V 6 (k))) 6 (k + 1) (V 6 (k + 1))) T)) (lk_w6 (by omega) (by omega)) ?_
        refine lk_aload_n dX9_goes_181 rfl rfl ?_
        refine lk_getR (f := 0) dX9_goes_182 rfl fX9_9 (by decide) (by decide) ?_
        refine lk_bipush (v := 12) dX9_goes_185 (by decide) ?_
        refine lk_iload_n dX9_goes_187 rfl rfl ?_
        refine lk_iaddN (a := 12) (b := k) dX9_goes_188 ?_
        refine lk_iload dX9_goes_189 rfl ?_
        refine lk_iastN (f := 0) (i := 12 + k) (v := (V 4 (k))) dX9_goes_191 rfl (by decide) rfl (by omega) (by decide) ?_
        refine lk_sg (σ' := (lk_ms (lk_up (lk_bar σ q1) 1 6 0 ((V 6 (k + 1)) - (V1 6 (k + 1)))) (lk_ou (lk_ou (lk_ou V1 6 (k) (V 6 (k))) 6 (k + 1) (V 6 (k + 1))) 4 (k) (V 4 (k))) T)) (lk_w4 (by omega) (by omega)) ?_
        refine lk_aload_n dX9_goes_192 rfl rfl ?_
        refine lk_getR (f := 0) dX9_goes_193 rfl fX9_9 (by decide) (by decide) ?_
        refine lk_bipush (v := 18) dX9_goes_196 (by decide) ?_
        refine lk_iload_n dX9_goes_198 rfl rfl ?_
        refine lk_iaddN (a := 18) (b := k) dX9_goes_199 ?_
        refine lk_iload dX9_goes_200 rfl ?_
        refine lk_iastN (f := 0) (i := 18 + k) (v := (V 5 (k))) dX9_goes_202 rfl (by decide) rfl (by omega) (by decide) ?_
        refine lk_sg (σ' := (lk_ms (lk_up (lk_bar σ q1) 1 6 0 ((V 6 (k + 1)) - (V1 6 (k + 1)))) (lk_ou (lk_ou (lk_ou (lk_ou V1 6 (k) (V 6 (k))) 6 (k + 1) (V 6 (k + 1))) 4 (k) (V 4 (k))) 5 (k) (V 5 (k))) T)) (lk_w5 (by omega) (by omega)) ?_
        refine lk_iload dX9_goes_203 rfl ?_
        refine lk_iret .boolean dX9_goes_205 rfl rfl ?_
        rw [hQ]
        first | have h5 : V 5 k = 0 := h01.resolve_right (by assumption) | skip
        have hp : lk_pas V k false z = .inr q1 := by simp only [lk_pas]; simp [lk_sb, *, -Int32.zero_sub]
        rw [hp]
        refine ⟨rfl, rfl, ((V 6 (k + 1)) - (V1 6 (k + 1))), ?_⟩
        show _ = lk_ms (lk_up (lk_bar σ q1) 1 6 0 (((V 6 (k + 1)) - (V1 6 (k + 1))))) V T
        rw [lk_near_back nV1]
    ·
      refine lk_callV (o := 1) (as := [lk_vi (nI (k))]) (S := []) dX9_goes_101 rfl vX9_fills rfl lX9_134 rfl rfl (Nat.le_of_ble_eq_true rfl) (tX9_fills l X d σ τ (k := (k)) (V := V) (T := T) (hk := hk6) (hr := hr)) ?_
      refine lk_k3 ?_
      refine lk_cast (pc' := 104) (S' := [lk_vi (lk_flR (lk_fil V (k)))]) rfl rfl rfl ?_
      refine lk_eqtop (y := 0) (by rw [hV1]; rfl) ?_
      refine lk_sg (σ' := (lk_ms (lk_bar σ q1) V T)) (by rw [hV1]; rfl) ?_
      refine lk_if_eq (tgt := 131) dX9_goes_104 (by decide) (fun hh18 => ?_) (fun hh18 => absurd hh18 (by decide))
      refine lk_iconst (v := 0) dX9_goes_131 (by decide) ?_
      refine lk_istore (L' := [(0, lk_vr 1 0), (1, lk_vi (nI (k))), (2, lk_vi 0), (3, lk_vi (z)), (4, lk_vi (V 6 (k))), (5, lk_vi (V 6 (k + 1))), (6, lk_vi (V 4 (k))), (7, lk_vi (V 5 (k))), (8, lk_vi 0)]) dX9_goes_132 (by decide +kernel) rfl ?_
      refine lk_aload_n dX9_goes_134 rfl rfl ?_
      refine lk_iload dX9_goes_135 rfl ?_
      refine lk_aload_n dX9_goes_137 rfl rfl ?_
      refine lk_getR (f := 0) dX9_goes_138 rfl fX9_9 (by decide) (by decide) ?_
      refine lk_bipush (v := 24) dX9_goes_141 (by decide) ?_
      refine lk_iload_n dX9_goes_143 rfl rfl ?_
      refine lk_iaddN (a := 24) (b := k) dX9_goes_144 ?_
      refine lk_iconst (v := 1) dX9_goes_145 (by decide) ?_
      refine lk_iaddN (a := 24 + k) (b := 1) dX9_goes_146 ?_
      refine lk_ialdN (f := 0) (i := 24 + k + 1) dX9_goes_147 rfl (by decide) rfl (by omega) (by decide) ?_
      refine lk_eqtop (y := (V 6 (k + 1))) (lk_r6 (by omega) (by omega)) ?_
      refine lk_isub dX9_goes_148 ?_
      refine lk_putI (f := 6) dX9_goes_149 rfl fX9_137 (by decide) (by decide) ?_
      refine lk_sg (σ' := (lk_ms (lk_up (lk_bar σ q1) 1 6 0 ((V 6 (k + 1)) - (V 6 (k + 1)))) V T)) (lk_wf (by decide)) ?_
      refine lk_iload dX9_goes_152 rfl ?_
      refine lk_if_ne (tgt := 203) dX9_goes_154 (by decide) (fun hh19 => absurd hh19 (by decide)) (fun hh19 => ?_)
      refine lk_aload_n dX9_goes_157 rfl rfl ?_
      refine lk_getR (f := 0) dX9_goes_158 rfl fX9_9 (by decide) (by decide) ?_
      refine lk_bipush (v := 24) dX9_goes_161 (by decide) ?_
      refine lk_iload_n dX9_goes_163 rfl rfl ?_
      refine lk_iaddN (a := 24) (b := k) dX9_goes_164 ?_
      refine lk_iload dX9_goes_165 rfl ?_
      refine lk_iastN (f := 0) (i := 24 + k) (v := (V 6 (k))) dX9_goes_167 rfl (by decide) rfl (by omega) (by decide) ?_
      refine lk_sg (σ' := (lk_ms (lk_up (lk_bar σ q1) 1 6 0 ((V 6 (k + 1)) - (V 6 (k + 1)))) (lk_ou V 6 (k) (V 6 (k))) T)) (lk_w6 (by omega) (by omega)) ?_
      refine lk_aload_n dX9_goes_168 rfl rfl ?_
      refine lk_getR (f := 0) dX9_goes_169 rfl fX9_9 (by decide) (by decide) ?_
      refine lk_bipush (v := 24) dX9_goes_172 (by decide) ?_
      refine lk_iload_n dX9_goes_174 rfl rfl ?_
      refine lk_iaddN (a := 24) (b := k) dX9_goes_175 ?_
      refine lk_iconst (v := 1) dX9_goes_176 (by decide) ?_
      refine lk_iaddN (a := 24 + k) (b := 1) dX9_goes_177 ?_
      refine lk_iload dX9_goes_178 rfl ?_
      refine lk_iastN (f := 0) (i := 24 + k + 1) (v := (V 6 (k + 1))) dX9_goes_180 rfl (by decide) rfl (by omega) (by decide) ?_
      refine lk_sg (σ' := (lk_ms (lk_up (lk_bar σ q1) 1 6 0 ((V 6 (k + 1)) - (V 6 (k + 1)))) (lk_ou (lk_ou V 6 (k) (V 6 (k))) 6 (k + 1) (V 6 (k + 1))) T)) (lk_w6 (by omega) (by omega)) ?_
      refine lk_aload_n dX9_goes_181 rfl rfl ?_
      refine lk_getR (f := 0) dX9_goes_182 rfl fX9_9 (by decide) (by decide) ?_
      refine lk_bipush (v := 12) dX9_goes_185 (by decide) ?_
      refine lk_iload_n dX9_goes_187 rfl rfl ?_
      refine lk_iaddN (a := 12) (b := k) dX9_goes_188 ?_
      refine lk_iload dX9_goes_189 rfl ?_
      refine lk_iastN (f := 0) (i := 12 + k) (v := (V 4 (k))) dX9_goes_191 rfl (by decide) rfl (by omega) (by decide) ?_
      refine lk_sg (σ' := (lk_ms (lk_up (lk_bar σ q1) 1 6 0 ((V 6 (k + 1)) - (V 6 (k + 1)))) (lk_ou (lk_ou (lk_ou V 6 (k) (V 6 (k))) 6 (k + 1) (V 6 (k + 1))) 4 (k) (V 4 (k))) T)) (lk_w4 (by omega) (by omega)) ?_
      refine lk_aload_n dX9_goes_192 rfl rfl ?_
      refine lk_getR (f := 0) dX9_goes_193 rfl fX9_9 (by decide) (by decide) ?_
      refine lk_bipush (v := 18) dX9_goes_196 (by decide) ?_
      refine lk_iload_n dX9_goes_198 rfl rfl ?_
      refine lk_iaddN (a := 18) (b := k) dX9_goes_199 ?_
      refine lk_iload dX9_goes_200 rfl ?_
      refine lk_iastN (f := 0) (i := 18 + k) (v := (V 5 (k))) dX9_goes_202 rfl (by decide) rfl (by omega) (by decide) ?_
      refine lk_sg (σ' := (lk_ms (lk_up (lk_bar σ q1) 1 6 0 ((V 6 (k + 1)) - (V 6 (k + 1)))) (lk_ou (lk_ou (lk_ou (lk_ou V 6 (k) (V 6 (k))) 6 (k + 1) (V 6 (k + 1))) 4 (k) (V 4 (k))) 5 (k) (V 5 (k))) T)) (lk_w5 (by omega) (by omega)) ?_
      refine lk_iload dX9_goes_203 rfl ?_
      refine lk_iret .boolean dX9_goes_205 rfl rfl ?_
      rw [hQ]
      first | have h5 : V 5 k = 0 := h01.resolve_right (by assumption) | skip
      have hp : lk_pas V k false z = .inr q1 := by simp only [lk_pas]; simp [lk_sb, *, -Int32.zero_sub]
      rw [hp]
      refine ⟨rfl, rfl, ((V 6 (k + 1)) - (V 6 (k + 1))), ?_⟩
      show _ = lk_ms (lk_up (lk_bar σ q1) 1 6 0 (((V 6 (k + 1)) - (V 6 (k + 1))))) V T
      rw [lk_near_back (lk_near_rf V k)]
theorem tX9_goes_up_ok (l : Launch) (X : lk_G) (d : Nat) (σ : lk_N) (τ : lk_T) (V T : lk_O) (n k : Nat) (z : Int32) (hV : lk_cok V n) (hr : lk_rok V) (hk : k < n) (W : lk_O) (h : lk_pas V k true z = .inl W) : lk_Mt l X mX9_goes (d + 2) [lk_vr 1 0, lk_vi (nI k), lk_vi 1, lk_vi z] (lk_ms σ V T) τ (fun rr σ1 τ1 => rr = some (lk_vi 1) ∧ σ1 = lk_ms (lk_up σ 1 6 0 (V 6 (k + 1) - W 6 (k + 1))) W T ∧ τ1 = τ) := by
  have h2 := tX9_goes_up l X d σ τ V T n k z hV hr hk
  rw [h] at h2
  refine lk_Mt_mono h2 ?_
  rintro rr σ1 τ1 ⟨h1, h3, s, h4⟩
  exact ⟨h1, h4, h3⟩
theorem tX9_goes_up_no (l : Launch) (X : lk_G) (d : Nat) (σ : lk_N) (τ : lk_T) (V T : lk_O) (n k : Nat) (z : Int32) (hV : lk_cok V n) (hr : lk_rok V) (hk : k < n) (q : Int32 × Nat × Int32) (h : lk_pas V k true z = .inr q) : lk_Mt l X mX9_goes (d + 2) [lk_vr 1 0, lk_vi (nI k), lk_vi 1, lk_vi z] (lk_ms σ V T) τ (fun rr σ1 τ1 => rr = some (lk_vi 0) ∧ τ1 = τ ∧ ∃ s : Int32, σ1 = lk_ms (lk_up (lk_bar σ q) 1 6 0 s) V T) := by
  have h2 := tX9_goes_up l X d σ τ V T n k z hV hr hk
  rw [h] at h2
  exact h2
theorem tX9_goes_dn_ok (l : Launch) (X : lk_G) (d : Nat) (σ : lk_N) (τ : lk_T) (V T : lk_O) (n k : Nat) (z : Int32) (hV : lk_cok V n) (hr : lk_rok V) (hk : k < n) (W : lk_O) (h : lk_pas V k false z = .inl W) : lk_Mt l X mX9_goes (d + 2) [lk_vr 1 0, lk_vi (nI k), lk_vi 0, lk_vi z] (lk_ms σ V T) τ (fun rr σ1 τ1 => rr = some (lk_vi 1) ∧ σ1 = lk_ms (lk_up σ 1 6 0 (V 6 (k + 1) - W 6 (k + 1))) W T ∧ τ1 = τ) := by
  have h2 := tX9_goes_dn l X d σ τ V T n k z hV hr hk
  rw [h] at h2
  refine lk_Mt_mono h2 ?_
  rintro rr σ1 τ1 ⟨h1, h3, s, h4⟩
  exact ⟨h1, h4, h3⟩
theorem tX9_goes_dn_no (l : Launch) (X : lk_G) (d : Nat) (σ : lk_N) (τ : lk_T) (V T : lk_O) (n k : Nat) (z : Int32) (hV : lk_cok V n) (hr : lk_rok V) (hk : k < n) (q : Int32 × Nat × Int32) (h : lk_pas V k false z = .inr q) : lk_Mt l X mX9_goes (d + 2) [lk_vr 1 0, lk_vi (nI k), lk_vi 0, lk_vi z] (lk_ms σ V T) τ (fun rr σ1 τ1 => rr = some (lk_vi 0) ∧ τ1 = τ ∧ ∃ s : Int32, σ1 = lk_ms (lk_up (lk_bar σ q) 1 6 0 s) V T) := by
  have h2 := tX9_goes_dn l X d σ τ V T n k z hV hr hk
  rw [h] at h2
  exact h2
set_option maxHeartbeats 1000000 in
set_option maxRecDepth 100000 in
theorem tX9_truly_up_ok (l : Launch) (X : lk_G) (d : Nat) (σ : lk_N) (τ : lk_T) (V T : lk_O) (n k : Nat) (z : Int32) (hV : lk_cok V n) (hr : lk_rok V) (hk : k < n) (hz : 0 ≤ z.toInt) (hz9 : z.toInt ≤ 9) (W : lk_O) (h : lk_pas V k true z = .inl W) : lk_Mt l X mX9_goesTruly (d + 3) [lk_vr 1 0, lk_vi (nI (k)), lk_vi 1, lk_vi (z)] (lk_ms σ V T) τ (fun rr σ1 τ1 => rr = some (lk_vi 1) ∧ σ1 = (lk_ms (lk_up σ 1 6 0 (V 6 (k + 1) - W 6 (k + 1))) W (lk_tad T (V 6 (k + 1) - W 6 (k + 1)))) ∧ τ1 = τ) := by
  refine lk_met (L := [(0, lk_vr 1 0), (1, lk_vi (nI (k))), (2, lk_vi 1), (3, lk_vi (z))]) (by decide +kernel) (Nat.le_of_ble_eq_true rfl) rfl ?_
  obtain ⟨Q, hQ⟩ : ∃ Q : lk_Q, Q = fun rr σ1 τ1 => rr = some (lk_vi 1) ∧ σ1 = (lk_ms (lk_up σ 1 6 0 (V 6 (k + 1) - W 6 (k + 1))) W (lk_tad T (V 6 (k + 1) - W 6 (k + 1)))) ∧ τ1 = τ := ⟨_, rfl⟩
  rw [← hQ]
  have hk6 : k < 6 := Nat.lt_of_lt_of_le hk hV.2.2.1
  refine lk_aload_n dX9_goesTruly_0 rfl rfl ?_
  refine lk_iload_n dX9_goesTruly_1 rfl rfl ?_
  refine lk_iload_n dX9_goesTruly_2 rfl rfl ?_
  refine lk_iload_n dX9_goesTruly_3 rfl rfl ?_
  refine lk_callV (o := 1) (as := [lk_vi (nI (k)), lk_vi 1, lk_vi (z)]) (S := []) dX9_goesTruly_4 rfl vX9_goes rfl lX9_140 rfl rfl (Nat.le_of_ble_eq_true rfl) (tX9_goes_up_ok l X d σ τ (k := (k)) (z := (z)) (V := V) (T := T) (n := n) (hV := hV) (hr := hr) (hk := hk) (W := W) (h := h)) ?_
  refine lk_k3 ?_
  refine lk_cast (pc' := 7) (S' := [lk_vi 1]) rfl rfl rfl ?_
  refine lk_if_eq (tgt := 31) dX9_goesTruly_7 (by decide) (fun hh1 => absurd hh1 (by decide)) (fun hh1 => ?_)
  refine lk_aload_n dX9_goesTruly_10 rfl rfl ?_
  refine lk_getR (f := 0) dX9_goesTruly_11 rfl fX9_9 (by decide) (by decide) ?_
  refine lk_bipush (v := 115) dX9_goesTruly_14 (by decide) ?_
  refine lk_aload_n dX9_goesTruly_16 rfl rfl ?_
  refine lk_getIv (v := ((V 6 ((k) + 1) - W 6 ((k) + 1)))) (f := 6) dX9_goesTruly_17 rfl fX9_137 (by decide) (by decide) ((lk_rf (by decide)).trans rfl) ?_
  refine lk_iadd dX9_goesTruly_20 ?_
  refine lk_bipush (v := 9) dX9_goesTruly_21 (by decide) ?_
  refine lk_iadd dX9_goesTruly_23 ?_
  obtain ⟨J, hJ, hJe, hJt⟩ := lk_tix (lk_pas_ok h (hV.2.2.2 k hk6) hz hz9).2.2.1 (lk_pas_ok h (hV.2.2.2 k hk6) hz hz9).2.2.2
  refine lk_eqtop (y := nI (115 + J)) hJe ?_
  refine lk_dup2 dX9_goesTruly_24 rfl rfl ?_
  refine lk_ialdN (f := 0) (i := 115 + J) dX9_goesTruly_25 rfl (by decide) rfl (by omega) (by decide) ?_
  refine lk_eqtop (y := (T 0 (J))) (lk_rT (by omega) (by omega)) ?_
  refine lk_iconst (v := 1) dX9_goesTruly_26 (by decide) ?_
  refine lk_iadd dX9_goesTruly_27 ?_
  refine lk_iastN (f := 0) (i := 115 + J) (v := ((T 0 (J)) + 1)) dX9_goesTruly_28 rfl (by decide) rfl (by omega) (by decide) ?_
  refine lk_sg (σ' := (lk_ms (lk_up σ 1 6 0 (V 6 ((k) + 1) - W 6 ((k) + 1))) W (lk_ou T 0 (J) ((T 0 (J)) + 1)))) (lk_wT (by omega) (by omega)) ?_
  refine lk_iconst (v := 1) dX9_goesTruly_29 (by decide) ?_
  refine lk_iret .boolean dX9_goesTruly_30 rfl rfl ?_
  rw [hQ]
  refine ⟨rfl, ?_, rfl⟩
  rw [hJt]

set_option maxHeartbeats 1000000 in
set_option maxRecDepth 100000 in
theorem tX9_truly_up_no (l : Launch) (X : lk_G) (d : Nat) (σ : lk_N) (τ : lk_T) (V T : lk_O) (n k : Nat) (z : Int32) (hV : lk_cok V n) (hr : lk_rok V) (hk : k < n) (q : Int32 × Nat × Int32) (h : lk_pas V k true z = .inr q) : lk_Mt l X mX9_goesTruly (d + 3) [lk_vr 1 0, lk_vi (nI (k)), lk_vi 1, lk_vi (z)] (lk_ms σ V T) τ (fun rr σ1 τ1 => rr = some (lk_vi 0) ∧ τ1 = τ ∧ ∃ s : Int32, σ1 = lk_ms (lk_cau (lk_up (lk_bar σ q) 1 6 0 s) k q) V T) := by
  refine lk_met (L := [(0, lk_vr 1 0), (1, lk_vi (nI (k))), (2, lk_vi 1), (3, lk_vi (z))]) (by decide +kernel) (Nat.le_of_ble_eq_true rfl) rfl ?_
  obtain ⟨Q, hQ⟩ : ∃ Q : lk_Q, Q = fun rr σ1 τ1 => rr = some (lk_vi 0) ∧ τ1 = τ ∧ ∃ s : Int32, σ1 = lk_ms (lk_cau (lk_up (lk_bar σ q) 1 6 0 s) k q) V T := ⟨_, rfl⟩
  rw [← hQ]
  refine lk_aload_n dX9_goesTruly_0 rfl rfl ?_
  refine lk_iload_n dX9_goesTruly_1 rfl rfl ?_
  refine lk_iload_n dX9_goesTruly_2 rfl rfl ?_
  refine lk_iload_n dX9_goesTruly_3 rfl rfl ?_
  refine lk_callV (o := 1) (as := [lk_vi (nI (k)), lk_vi 1, lk_vi (z)]) (S := []) dX9_goesTruly_4 rfl vX9_goes rfl lX9_140 rfl rfl (Nat.le_of_ble_eq_true rfl) (tX9_goes_up_no l X d σ τ (k := (k)) (z := (z)) (V := V) (T := T) (n := n) (hV := hV) (hr := hr) (hk := hk) (q := q) (h := h)) ?_
  refine lk_k5 (fun s1 => ?_)
  refine lk_cast (pc' := 7) (S' := [lk_vi 0]) rfl rfl rfl ?_
  refine lk_sg (σ' := (lk_ms (lk_up (lk_bar σ q) 1 6 0 s1) V T)) rfl ?_
  refine lk_if_eq (tgt := 31) dX9_goesTruly_7 (by decide) (fun hh1 => ?_) (fun hh1 => absurd hh1 (by decide))
  refine lk_aload_n dX9_goesTruly_31 rfl rfl ?_
  refine lk_iconst (v := 1) dX9_goesTruly_32 (by decide) ?_
  refine lk_putZ (f := 10) dX9_goesTruly_33 rfl fX9_144 (by decide) (by decide) (by decide) ?_
  refine lk_sg (σ' := (lk_ms (lk_up (lk_up (lk_bar σ q) 1 6 0 s1) 1 10 0 1) V T)) (lk_wf (by decide)) ?_
  refine lk_aload_n dX9_goesTruly_36 rfl rfl ?_
  refine lk_getR (f := 11) dX9_goesTruly_37 rfl fX9_21 (by decide) (by decide) ?_
  refine lk_iconst (v := 0) dX9_goesTruly_40 (by decide) ?_
  refine lk_iload_n dX9_goesTruly_41 rfl rfl ?_
  refine lk_iastN (f := 11) (i := 0) (v := (nI (k))) dX9_goesTruly_42 rfl (by decide) rfl (by omega) (by decide) ?_
  refine lk_sg (σ' := (lk_ms (lk_up (lk_up (lk_up (lk_bar σ q) 1 6 0 s1) 1 10 0 1) 1 11 (0) (nI (k))) V T)) (lk_wf (by decide)) ?_
  refine lk_aload_n dX9_goesTruly_43 rfl rfl ?_
  refine lk_getR (f := 11) dX9_goesTruly_44 rfl fX9_21 (by decide) (by decide) ?_
  refine lk_iconst (v := 1) dX9_goesTruly_47 (by decide) ?_
  refine lk_aload_n dX9_goesTruly_48 rfl rfl ?_
  refine lk_getIv (v := (q.1)) (f := 7) dX9_goesTruly_49 rfl fX9_118 (by decide) (by decide) ((lk_rf (by decide)).trans rfl) ?_
  refine lk_iastN (f := 11) (i := 1) (v := (q.1)) dX9_goesTruly_52 rfl (by decide) rfl (by omega) (by decide) ?_
  refine lk_sg (σ' := (lk_ms (lk_up (lk_up (lk_up (lk_up (lk_bar σ q) 1 6 0 s1) 1 10 0 1) 1 11 (0) (nI (k))) 1 11 (1) (q.1)) V T)) (lk_wf (by decide)) ?_
  refine lk_aload_n dX9_goesTruly_53 rfl rfl ?_
  refine lk_getR (f := 11) dX9_goesTruly_54 rfl fX9_21 (by decide) (by decide) ?_
  refine lk_iconst (v := 2) dX9_goesTruly_57 (by decide) ?_
  refine lk_aload_n dX9_goesTruly_58 rfl rfl ?_
  refine lk_getIv (v := (nI q.2.1)) (f := 8) dX9_goesTruly_59 rfl fX9_121 (by decide) (by decide) ((lk_rf (by decide)).trans rfl) ?_
  refine lk_iastN (f := 11) (i := 2) (v := (nI q.2.1)) dX9_goesTruly_62 rfl (by decide) rfl (by omega) (by decide) ?_
  refine lk_sg (σ' := (lk_ms (lk_up (lk_up (lk_up (lk_up (lk_up (lk_bar σ q) 1 6 0 s1) 1 10 0 1) 1 11 (0) (nI (k))) 1 11 (1) (q.1)) 1 11 (2) (nI q.2.1)) V T)) (lk_wf (by decide)) ?_
  refine lk_aload_n dX9_goesTruly_63 rfl rfl ?_
  refine lk_getR (f := 11) dX9_goesTruly_64 rfl fX9_21 (by decide) (by decide) ?_
  refine lk_iconst (v := 3) dX9_goesTruly_67 (by decide) ?_
  refine lk_aload_n dX9_goesTruly_68 rfl rfl ?_
  refine lk_getIv (v := (q.2.2)) (f := 9) dX9_goesTruly_69 rfl fX9_124 (by decide) (by decide) ((lk_rf (by decide)).trans rfl) ?_
  refine lk_iastN (f := 11) (i := 3) (v := (q.2.2)) dX9_goesTruly_72 rfl (by decide) rfl (by omega) (by decide) ?_
  refine lk_sg (σ' := (lk_ms (lk_up (lk_up (lk_up (lk_up (lk_up (lk_up (lk_bar σ q) 1 6 0 s1) 1 10 0 1) 1 11 (0) (nI (k))) 1 11 (1) (q.1)) 1 11 (2) (nI q.2.1)) 1 11 (3) (q.2.2)) V T)) (lk_wf (by decide)) ?_
  refine lk_iconst (v := 0) dX9_goesTruly_73 (by decide) ?_
  refine lk_iret .boolean dX9_goesTruly_74 rfl rfl ?_
  rw [hQ]
  exact ⟨rfl, rfl, s1, rfl⟩

set_option maxHeartbeats 1000000 in
set_option maxRecDepth 100000 in
theorem tX9_truly_dn_ok (l : Launch) (X : lk_G) (d : Nat) (σ : lk_N) (τ : lk_T) (V T : lk_O) (n k : Nat) (z : Int32) (hV : lk_cok V n) (hr : lk_rok V) (hk : k < n) (hz : 0 ≤ z.toInt) (hz9 : z.toInt ≤ 9) (W : lk_O) (h : lk_pas V k false z = .inl W) : lk_Mt l X mX9_goesTruly (d + 3) [lk_vr 1 0, lk_vi (nI (k)), lk_vi 0, lk_vi (z)] (lk_ms σ V T) τ (fun rr σ1 τ1 => rr = some (lk_vi 1) ∧ σ1 = (lk_ms (lk_up σ 1 6 0 (V 6 (k + 1) - W 6 (k + 1))) W (lk_tad T (V 6 (k + 1) - W 6 (k + 1)))) ∧ τ1 = τ) := by
  refine lk_met (L := [(0, lk_vr 1 0), (1, lk_vi (nI (k))), (2, lk_vi 0), (3, lk_vi (z))]) (by decide +kernel) (Nat.le_of_ble_eq_true rfl) rfl ?_
  obtain ⟨Q, hQ⟩ : ∃ Q : lk_Q, Q = fun rr σ1 τ1 => rr = some (lk_vi 1) ∧ σ1 = (lk_ms (lk_up σ 1 6 0 (V 6 (k + 1) - W 6 (k + 1))) W (lk_tad T (V 6 (k + 1) - W 6 (k + 1)))) ∧ τ1 = τ := ⟨_, rfl⟩
  rw [← hQ]
  have hk6 : k < 6 := Nat.lt_of_lt_of_le hk hV.2.2.1
  refine lk_aload_n dX9_goesTruly_0 rfl rfl ?_
  refine lk_iload_n dX9_goesTruly_1 rfl rfl ?_
  refine lk_iload_n dX9_goesTruly_2 rfl rfl ?_
  refine lk_iload_n dX9_goesTruly_3 rfl rfl ?_
  refine lk_callV (o := 1) (as := [lk_vi (nI (k)), lk_vi 0, lk_vi (z)]) (S := []) dX9_goesTruly_4 rfl vX9_goes rfl lX9_140 rfl rfl (Nat.le_of_ble_eq_true rfl) (tX9_goes_dn_ok l X d σ τ (k := (k)) (z := (z)) (V := V) (T := T) (n := n) (hV := hV) (hr := hr) (hk := hk) (W := W) (h := h)) ?_
  refine lk_k3 ?_
  refine lk_cast (pc' := 7) (S' := [lk_vi 1]) rfl rfl rfl ?_
  refine lk_if_eq (tgt := 31) dX9_goesTruly_7 (by decide) (fun hh1 => absurd hh1 (by decide)) (fun hh1 => ?_)
  refine lk_aload_n dX9_goesTruly_10 rfl rfl ?_
  refine lk_getR (f := 0) dX9_goesTruly_11 rfl fX9_9 (by decide) (by decide) ?_
  refine lk_bipush (v := 115) dX9_goesTruly_14 (by decide) ?_
  refine lk_aload_n dX9_goesTruly_16 rfl rfl ?_
  refine lk_getIv (v := ((V 6 ((k) + 1) - W 6 ((k) + 1)))) (f := 6) dX9_goesTruly_17 rfl fX9_137 (by decide) (by decide) ((lk_rf (by decide)).trans rfl) ?_
  refine lk_iadd dX9_goesTruly_20 ?_
  refine lk_bipush (v := 9) dX9_goesTruly_21 (by decide) ?_
  refine lk_iadd dX9_goesTruly_23 ?_
  obtain ⟨J, hJ, hJe, hJt⟩ := lk_tix (lk_pas_ok h (hV.2.2.2 k hk6) hz hz9).2.2.1 (lk_pas_ok h (hV.2.2.2 k hk6) hz hz9).2.2.2
  refine lk_eqtop (y := nI (115 + J)) hJe ?_
  refine lk_dup2 dX9_goesTruly_24 rfl rfl ?_
  refine lk_ialdN (f := 0) (i := 115 + J) dX9_goesTruly_25 rfl (by decide) rfl (by omega) (by decide) ?_
  refine lk_eqtop (y := (T 0 (J))) (lk_rT (by omega) (by omega)) ?_
  refine lk_iconst (v := 1) dX9_goesTruly_26 (by decide) ?_
  refine lk_iadd dX9_goesTruly_27 ?_
  refine lk_iastN (f := 0) (i := 115 + J) (v := ((T 0 (J)) + 1)) dX9_goesTruly_28 rfl (by decide) rfl (by omega) (by decide) ?_
  refine lk_sg (σ' := (lk_ms (lk_up σ 1 6 0 (V 6 ((k) + 1) - W 6 ((k) + 1))) W (lk_ou T 0 (J) ((T 0 (J)) + 1)))) (lk_wT (by omega) (by omega)) ?_
  refine lk_iconst (v := 1) dX9_goesTruly_29 (by decide) ?_
  refine lk_iret .boolean dX9_goesTruly_30 rfl rfl ?_
  rw [hQ]
  refine ⟨rfl, ?_, rfl⟩
  rw [hJt]

set_option maxHeartbeats 1000000 in
set_option maxRecDepth 100000 in
theorem tX9_truly_dn_no (l : Launch) (X : lk_G) (d : Nat) (σ : lk_N) (τ : lk_T) (V T : lk_O) (n k : Nat) (z : Int32) (hV : lk_cok V n) (hr : lk_rok V) (hk : k < n) (q : Int32 × Nat × Int32) (h : lk_pas V k false z = .inr q) : lk_Mt l X mX9_goesTruly (d + 3) [lk_vr 1 0, lk_vi (nI (k)), lk_vi 0, lk_vi (z)] (lk_ms σ V T) τ (fun rr σ1 τ1 => rr = some (lk_vi 0) ∧ τ1 = τ ∧ ∃ s : Int32, σ1 = lk_ms (lk_cau (lk_up (lk_bar σ q) 1 6 0 s) k q) V T) := by
  refine lk_met (L := [(0, lk_vr 1 0), (1, lk_vi (nI (k))), (2, lk_vi 0), (3, lk_vi (z))]) (by decide +kernel) (Nat.le_of_ble_eq_true rfl) rfl ?_
  obtain ⟨Q, hQ⟩ : ∃ Q : lk_Q, Q = fun rr σ1 τ1 => rr = some (lk_vi 0) ∧ τ1 = τ ∧ ∃ s : Int32, σ1 = lk_ms (lk_cau (lk_up (lk_bar σ q) 1 6 0 s) k q) V T := ⟨_, rfl⟩
  rw [← hQ]
  refine lk_aload_n dX9_goesTruly_0 rfl rfl ?_
  refine lk_iload_n dX9_goesTruly_1 rfl rfl ?_
  refine lk_iload_n dX9_goesTruly_2 rfl rfl ?_
  refine lk_iload_n dX9_goesTruly_3 rfl rfl ?_
  refine lk_callV (o := 1) (as := [lk_vi (nI (k)), lk_vi 0, lk_vi (z)]) (S := []) dX9_goesTruly_4 rfl vX9_goes rfl lX9_140 rfl rfl (Nat.le_of_ble_eq_true rfl) (tX9_goes_dn_no l X d σ τ (k := (k)) (z := (z)) (V := V) (T := T) (n := n) (hV := hV) (hr := hr) (hk := hk) (q := q) (h := h)) ?_
  refine lk_k5 (fun s1 => ?_)
  refine lk_cast (pc' := 7) (S' := [lk_vi 0]) rfl rfl rfl ?_
  refine lk_sg (σ' := (lk_ms (lk_up (lk_bar σ q) 1 6 0 s1) V T)) rfl ?_
  refine lk_if_eq (tgt := 31) dX9_goesTruly_7 (by decide) (fun hh1 => ?_) (fun hh1 => absurd hh1 (by decide))
  refine lk_aload_n dX9_goesTruly_31 rfl rfl ?_
  refine lk_iconst (v := 1) dX9_goesTruly_32 (by decide) ?_
  refine lk_putZ (f := 10) dX9_goesTruly_33 rfl fX9_144 (by decide) (by decide) (by decide) ?_
  refine lk_sg (σ' := (lk_ms (lk_up (lk_up (lk_bar σ q) 1 6 0 s1) 1 10 0 1) V T)) (lk_wf (by decide)) ?_
  refine lk_aload_n dX9_goesTruly_36 rfl rfl ?_
  refine lk_getR (f := 11) dX9_goesTruly_37 rfl fX9_21 (by decide) (by decide) ?_
  refine lk_iconst (v := 0) dX9_goesTruly_40 (by decide) ?_
  refine lk_iload_n dX9_goesTruly_41 rfl rfl ?_
  refine lk_iastN (f := 11) (i := 0) (v := (nI (k))) dX9_goesTruly_42 rfl (by decide) rfl (by omega) (by decide) ?_
  refine lk_sg (σ' := (lk_ms (lk_up (lk_up (lk_up (lk_bar σ q) 1 6 0 s1) 1 10 0 1) 1 11 (0) (nI (k))) V T)) (lk_wf (by decide)) ?_
  refine lk_aload_n dX9_goesTruly_43 rfl rfl ?_
  refine lk_getR (f := 11) dX9_goesTruly_44 rfl fX9_21 (by decide) (by decide) ?_
  refine lk_iconst (v := 1) dX9_goesTruly_47 (by decide) ?_
  refine lk_aload_n dX9_goesTruly_48 rfl rfl ?_
  refine lk_getIv (v := (q.1)) (f := 7) dX9_goesTruly_49 rfl fX9_118 (by decide) (by decide) ((lk_rf (by decide)).trans rfl) ?_
  refine lk_iastN (f := 11) (i := 1) (v := (q.1)) dX9_goesTruly_52 rfl (by decide) rfl (by omega) (by decide) ?_
  refine lk_sg (σ' := (lk_ms (lk_up (lk_up (lk_up (lk_up (lk_bar σ q) 1 6 0 s1) 1 10 0 1) 1 11 (0) (nI (k))) 1 11 (1) (q.1)) V T)) (lk_wf (by decide)) ?_
  refine lk_aload_n dX9_goesTruly_53 rfl rfl ?_
  refine lk_getR (f := 11) dX9_goesTruly_54 rfl fX9_21 (by decide) (by decide) ?_
  refine lk_iconst (v := 2) dX9_goesTruly_57 (by decide) ?_
  refine lk_aload_n dX9_goesTruly_58 rfl rfl ?_
  refine lk_getIv (v := (nI q.2.1)) (f := 8) dX9_goesTruly_59 rfl fX9_121 (by decide) (by decide) ((lk_rf (by decide)).trans rfl) ?_
  refine lk_iastN (f := 11) (i := 2) (v := (nI q.2.1)) dX9_goesTruly_62 rfl (by decide) rfl (by omega) (by decide) ?_
  refine lk_sg (σ' := (lk_ms (lk_up (lk_up (lk_up (lk_up (lk_up (lk_bar σ q) 1 6 0 s1) 1 10 0 1) 1 11 (0) (nI (k))) 1 11 (1) (q.1)) 1 11 (2) (nI q.2.1)) V T)) (lk_wf (by decide)) ?_
  refine lk_aload_n dX9_goesTruly_63 rfl rfl ?_
  refine lk_getR (f := 11) dX9_goesTruly_64 rfl fX9_21 (by decide) (by decide) ?_
  refine lk_iconst (v := 3) dX9_goesTruly_67 (by decide) ?_
  refine lk_aload_n dX9_goesTruly_68 rfl rfl ?_
  refine lk_getIv (v := (q.2.2)) (f := 9) dX9_goesTruly_69 rfl fX9_124 (by decide) (by decide) ((lk_rf (by decide)).trans rfl) ?_
  refine lk_iastN (f := 11) (i := 3) (v := (q.2.2)) dX9_goesTruly_72 rfl (by decide) rfl (by omega) (by decide) ?_
  refine lk_sg (σ' := (lk_ms (lk_up (lk_up (lk_up (lk_up (lk_up (lk_up (lk_bar σ q) 1 6 0 s1) 1 10 0 1) 1 11 (0) (nI (k))) 1 11 (1) (q.1)) 1 11 (2) (nI q.2.1)) 1 11 (3) (q.2.2)) V T)) (lk_wf (by decide)) ?_
  refine lk_iconst (v := 0) dX9_goesTruly_73 (by decide) ?_
  refine lk_iret .boolean dX9_goesTruly_74 rfl rfl ?_
  rw [hQ]
  exact ⟨rfl, rfl, s1, rfl⟩
