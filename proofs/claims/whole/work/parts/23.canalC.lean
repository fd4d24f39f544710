set_option maxHeartbeats 4000000 in
set_option maxRecDepth 100000 in
theorem tX5_add (l : Launch) (X : lk_G) (d : Nat) (σ : lk_N) (τ : lk_T) (t : Nat) (ht : lk_ko t = 5) (s : Int32) : lk_Mt l X mX5_add d [lk_vr t 0, lk_vi (s)] σ τ (fun rr σ1 τ1 => rr = none ∧ σ1 = lk_so σ t (lk_tad (σ t) s) ∧ τ1 = τ) := by
  refine lk_met (L := [(0, lk_vr t 0), (1, lk_vi (s))]) (by decide +kernel) (Nat.le_of_ble_eq_true rfl) rfl ?_
  obtain ⟨Q, hQ⟩ : ∃ Q : lk_Q, Q = fun rr σ1 τ1 => rr = none ∧ σ1 = lk_so σ t (lk_tad (σ t) s) ∧ τ1 = τ := ⟨_, rfl⟩
  rw [← hQ]
  refine lk_iload_n dX5_add_0 rfl rfl ?_
  refine lk_bipush (v := (-9)) dX5_add_1 (by decide) ?_
  refine lk_icmp_lt (tgt := 25) dX5_add_3 (by decide) (fun h1 => ?_) (fun h1 => ?_)
  ·
    refine lk_vret dX5_add_25 rfl ?_
    rw [hQ]
    refine ⟨rfl, ?_, rfl⟩
    first | (rw [lk_tad, if_pos (Or.inl (by assumption)), lk_so_self]; done) | (rw [lk_tad, if_pos (Or.inr (by assumption)), lk_so_self]; done) | (rw [lk_tad, if_neg (by rintro (a | a) <;> contradiction)]; exact lk_up_so _ _ _ _ _)
  ·
    refine lk_iload_n dX5_add_6 rfl rfl ?_
    refine lk_bipush (v := 108) dX5_add_7 (by decide) ?_
    refine lk_icmp_gt (tgt := 25) dX5_add_9 (by decide) (fun h2 => ?_) (fun h2 => ?_)
    ·
      refine lk_vret dX5_add_25 rfl ?_
      rw [hQ]
      refine ⟨rfl, ?_, rfl⟩
      first | (rw [lk_tad, if_pos (Or.inl (by assumption)), lk_so_self]; done) | (rw [lk_tad, if_pos (Or.inr (by assumption)), lk_so_self]; done) | (rw [lk_tad, if_neg (by rintro (a | a) <;> contradiction)]; exact lk_up_so _ _ _ _ _)
    ·
      refine lk_aload_n dX5_add_12 rfl rfl ?_
      refine lk_getR (f := 0) dX5_add_13 ht fX5_11 (by decide) (by decide) ?_
      refine lk_iload_n dX5_add_16 rfl rfl ?_
      refine lk_bipush (v := (-9)) dX5_add_17 (by decide) ?_
      refine lk_isub dX5_add_19 ?_
      refine lk_dup2 dX5_add_20 rfl rfl ?_
      refine lk_iald (f := 0) dX5_add_21 ht (by decide) rfl (lk_tin (by assumption) (by assumption)) ?_
      refine lk_iconst (v := 1) dX5_add_22 (by decide) ?_
      refine lk_iadd dX5_add_23 ?_
      refine lk_iast (f := 0) dX5_add_24 ht (by decide) rfl (lk_tin (by assumption) (by assumption)) ?_
      refine lk_vret dX5_add_25 rfl ?_
      rw [hQ]
      refine ⟨rfl, ?_, rfl⟩
      first | (rw [lk_tad, if_pos (Or.inl (by assumption)), lk_so_self]; done) | (rw [lk_tad, if_pos (Or.inr (by assumption)), lk_so_self]; done) | (rw [lk_tad, if_neg (by rintro (a | a) <;> contradiction)]; exact lk_up_so _ _ _ _ _)

set_option maxHeartbeats 4000000 in
set_option maxRecDepth 100000 in
theorem tX0_passage_up (l : Launch) (X : lk_G) (d : Nat) (σ : lk_N) (τ : lk_T) (c : Nat) (hc : lk_ko c = 0) (n k : Nat) (z : Int32) (hV : lk_cok (σ c) n) (hk : k < n) : lk_Mt l X mX0_passage (d + 2) [lk_vr c 0, lk_vi (nI (k)), lk_vi 1, lk_vi (z)] σ τ (fun rr σ1 τ1 => rr = some (lk_vi (lk_paR (σ c) k (lk_pas (σ c) k true z))) ∧ σ1 = lk_paS σ c k (lk_pas (σ c) k true z) ∧ τ1 = τ) := by
  refine lk_met (L := [(0, lk_vr c 0), (1, lk_vi (nI (k))), (2, lk_vi 1), (3, lk_vi (z))]) (by decide +kernel) (Nat.le_of_ble_eq_true rfl) rfl ?_
  obtain ⟨Q, hQ⟩ : ∃ Q : lk_Q, Q = fun rr σ1 τ1 => rr = some (lk_vi (lk_paR (σ c) k (lk_pas (σ c) k true z))) ∧ σ1 = lk_paS σ c k (lk_pas (σ c) k true z) ∧ τ1 = τ := ⟨_, rfl⟩
  rw [← hQ]
  have hk6 : k < 6 := Nat.lt_of_lt_of_le hk hV.2.2.1
  have h01 := (hV.2.2.2 k hk6).2.2.2.2.2.2
  refine lk_aload_n dX0_passage_0 rfl rfl ?_
  refine lk_iload_n dX0_passage_1 rfl rfl ?_
  refine lk_callV (o := c) (as := [lk_vi (nI (k))]) (S := []) dX0_passage_2 rfl vX0_hasLock rfl lX0_68 hc rfl (Nat.le_of_ble_eq_true rfl) (tX0_hasLock_in l X (d + 1) σ τ (c := c) (k := (k)) (hc := hc) (n := n) (hn := hV.1) (hk := hk) (hn6 := hV.2.2.1)) ?_
  refine lk_k3 ?_
  refine lk_cast (pc' := 5) (S' := [lk_vi 1]) rfl rfl rfl ?_
  refine lk_if_ne (tgt := 11) dX0_passage_5 (by decide) (fun h1 => ?_) (fun h1 => absurd h1 (by decide))
  refine lk_aload_n dX0_passage_11 rfl rfl ?_
  refine lk_getR (f := 6) dX0_passage_12 hc fX0_25 (by decide) (by decide) ?_
  refine lk_iload_n dX0_passage_15 rfl rfl ?_
  refine lk_ialdN (f := 6) (i := k) dX0_passage_16 hc (by decide) rfl (by omega) (by decide) ?_
  refine lk_istore (L' := [(0, lk_vr c 0), (1, lk_vi (nI (k))), (2, lk_vi 1), (3, lk_vi (z)), (4, lk_vi (σ c 6 (k)))]) dX0_passage_17 (by decide +kernel) rfl ?_
  refine lk_aload_n dX0_passage_19 rfl rfl ?_
  refine lk_getR (f := 6) dX0_passage_20 hc fX0_25 (by decide) (by decide) ?_
  refine lk_iload_n dX0_passage_23 rfl rfl ?_
  refine lk_iconst (v := 1) dX0_passage_24 (by decide) ?_
  refine lk_iaddN (a := k) (b := 1) dX0_passage_25 ?_
  refine lk_ialdN (f := 6) (i := k + 1) dX0_passage_26 hc (by decide) rfl (by omega) (by decide) ?_
  refine lk_istore (L' := [(0, lk_vr c 0), (1, lk_vi (nI (k))), (2, lk_vi 1), (3, lk_vi (z)), (4, lk_vi (σ c 6 (k))), (5, lk_vi (σ c 6 (k + 1)))]) dX0_passage_27 (by decide +kernel) rfl ?_
  refine lk_aload_n dX0_passage_29 rfl rfl ?_
  refine lk_getR (f := 4) dX0_passage_30 hc fX0_18 (by decide) (by decide) ?_
  refine lk_iload_n dX0_passage_33 rfl rfl ?_
  refine lk_ialdN (f := 4) (i := k) dX0_passage_34 hc (by decide) rfl (by omega) (by decide) ?_
  refine lk_istore (L' := [(0, lk_vr c 0), (1, lk_vi (nI (k))), (2, lk_vi 1), (3, lk_vi (z)), (4, lk_vi (σ c 6 (k))), (5, lk_vi (σ c 6 (k + 1))), (6, lk_vi (σ c 4 (k)))]) dX0_passage_35 (by decide +kernel) rfl ?_
  refine lk_aload_n dX0_passage_37 rfl rfl ?_
  refine lk_getR (f := 5) dX0_passage_38 hc fX0_21 (by decide) (by decide) ?_
  refine lk_iload_n dX0_passage_41 rfl rfl ?_
  refine lk_zaldN (f := 5) (i := k) dX0_passage_42 hc (by decide) rfl (by omega) (by decide) ?_
  refine lk_istore (L' := [(0, lk_vr c 0), (1, lk_vi (nI (k))), (2, lk_vi 1), (3, lk_vi (z)), (4, lk_vi (σ c 6 (k))), (5, lk_vi (σ c 6 (k + 1))), (6, lk_vi (σ c 4 (k))), (7, lk_vi (σ c 5 (k)))]) dX0_passage_43 (by decide +kernel) rfl ?_
  refine lk_iload_n dX0_passage_45 rfl rfl ?_
  refine lk_if_eq (tgt := 91) dX0_passage_46 (by decide) (fun h2 => absurd h2 (by decide)) (fun h2 => ?_)
  refine lk_aload_n dX0_passage_49 rfl rfl ?_
  refine lk_getR (f := 5) dX0_passage_50 hc fX0_21 (by decide) (by decide) ?_
  refine lk_iload_n dX0_passage_53 rfl rfl ?_
  refine lk_zaldN (f := 5) (i := k) dX0_passage_54 hc (by decide) rfl (by omega) (by decide) ?_
  refine lk_if_eq (tgt := 66) dX0_passage_55 (by decide) (fun h3 => ?_) (fun h3 => ?_)
  ·
    refine lk_aload_n dX0_passage_66 rfl rfl ?_
    refine lk_iload_n dX0_passage_67 rfl rfl ?_
    rcases hσaf : lk_fil (σ c) k with V1 | q1
    ·
      refine lk_callV (o := c) (as := [lk_vi (nI (k))]) (S := []) dX0_passage_68 rfl vX0_fills rfl lX0_80 hc rfl (Nat.le_of_ble_eq_true rfl) (tX0_fills_ok l X d σ τ (c := c) (k := (k)) (hc := hc) (hk := hk6) (V := V1) (h := hσaf)) ?_
      refine lk_k2 (fun σa hσa => ?_)
      have eσa : lk_so σ c (σa c) = σa := (lk_stp (lk_so_self σ c).symm hσa).symm
      have hvσa := lk_stp_V hσa
      subst hvσa
      clear hσa
      have nσa : lk_near (σ c) (σa c) k := lk_near_tr (lk_near_rf _ _) (lk_fil_near hσaf)
      refine lk_cast (pc' := 71) (S' := [lk_vi 1]) rfl rfl rfl ?_
      refine lk_if_eq (tgt := 87) dX0_passage_71 (by decide) (fun h4 => absurd h4 (by decide)) (fun h4 => ?_)
      refine lk_aload_n dX0_passage_74 rfl rfl ?_
      refine lk_iload_n dX0_passage_75 rfl rfl ?_
      refine lk_iload_n dX0_passage_76 rfl rfl ?_
      rcases hσbf : lk_swp (σa c) k (z) with V1 | q1
      ·
        refine lk_callV (o := c) (as := [lk_vi (nI (k)), lk_vi (z)]) (S := []) dX0_passage_77 rfl vX0_swaps rfl lX0_83 hc rfl (Nat.le_of_ble_eq_true rfl) (tX0_swaps_ok l X d σa τ (c := c) (k := (k)) (z := (z)) (hc := hc) (hk := hk6) (V := V1) (h := hσbf)) ?_
        refine lk_k2 (fun σb hσb => ?_)
        have eσb : lk_so σ c (σb c) = σb := (lk_stp (eσa).symm hσb).symm
        have hvσb := lk_stp_V hσb
        subst hvσb
        clear hσb
        have nσb : lk_near (σ c) (σb c) k := lk_near_tr nσa (lk_swp_near hσbf)
        refine lk_cast (pc' := 80) (S' := [lk_vi 1]) rfl rfl rfl ?_
        refine lk_if_eq (tgt := 87) dX0_passage_80 (by decide) (fun h5 => absurd h5 (by decide)) (fun h5 => ?_)
        refine lk_iconst (v := 1) dX0_passage_83 (by decide) ?_
        refine lk_goto (tgt := 131) dX0_passage_84 (by decide) ?_
        refine lk_istore (L' := [(0, lk_vr c 0), (1, lk_vi (nI (k))), (2, lk_vi 1), (3, lk_vi (z)), (4, lk_vi (σ c 6 (k))), (5, lk_vi (σ c 6 (k + 1))), (6, lk_vi (σ c 4 (k))), (7, lk_vi (σ c 5 (k))), (8, lk_vi 1)]) dX0_passage_131 (by decide +kernel) rfl ?_
        refine lk_iload dX0_passage_133 rfl ?_
        refine lk_if_ne (tgt := 175) dX0_passage_135 (by decide) (fun h6 => ?_) (fun h6 => absurd h6 (by decide))
        refine lk_iload dX0_passage_175 rfl ?_
        refine lk_aload_n dX0_passage_177 rfl rfl ?_
        refine lk_getR (f := 6) dX0_passage_178 hc fX0_25 (by decide) (by decide) ?_
        refine lk_iload_n dX0_passage_181 rfl rfl ?_
        refine lk_iconst (v := 1) dX0_passage_182 (by decide) ?_
        refine lk_iaddN (a := k) (b := 1) dX0_passage_183 ?_
        refine lk_ialdN (f := 6) (i := k + 1) dX0_passage_184 hc (by decide) rfl (by omega) (by decide) ?_
        refine lk_isub dX0_passage_185 ?_
        refine lk_istore (L' := [(0, lk_vr c 0), (1, lk_vi (nI (k))), (2, lk_vi 1), (3, lk_vi (z)), (4, lk_vi (σ c 6 (k))), (5, lk_vi (σ c 6 (k + 1))), (6, lk_vi (σ c 4 (k))), (7, lk_vi (σ c 5 (k))), (8, lk_vi 1), (9, lk_vi ((σ c 6 (k + 1)) - (σb c 6 (k + 1))))]) dX0_passage_186 (by decide +kernel) rfl ?_
        refine lk_aload_n dX0_passage_188 rfl rfl ?_
        refine lk_getO (f := 10) (o' := (c + 1)) dX0_passage_189 hc fX0_40 (by decide) (by decide) (lk_fo1 hc) ?_
        refine lk_iload dX0_passage_192 rfl ?_
        refine lk_callV (o := (c + 1)) (as := [lk_vi ((σ c 6 (k + 1)) - (σb c 6 (k + 1)))]) (S := []) dX0_passage_194 rfl vX5_add rfl lX0_87 (lk_kc1 hc) rfl (Nat.le_of_ble_eq_true rfl) (tX5_add l X (d + 1) σb τ (t := (c + 1)) (s := ((σ c 6 (k + 1)) - (σb c 6 (k + 1)))) (ht := lk_kc1 hc)) ?_
        refine lk_k3 ?_
        refine lk_cast (pc' := 197) (S' := []) rfl rfl rfl ?_
        refine lk_iload dX0_passage_197 rfl ?_
        refine lk_iret .int dX0_passage_199 rfl rfl ?_
        rw [hQ]
        have hp : lk_pas (σ c) k true z = .inl (σb c) := by simp only [lk_pas]; simp [lk_sb, *, -Int32.zero_sub]
        rw [hp]
        refine ⟨rfl, ?_, rfl⟩
        have h1 : σb (c + 1) = σ (c + 1) := by rw [← eσb]; exact lk_so_ne (by omega)
        show lk_so σb (c + 1) _ = lk_so (lk_so σ c (σb c)) (c + 1) _
        rw [h1, eσb]
      ·
        refine lk_callV (o := c) (as := [lk_vi (nI (k)), lk_vi (z)]) (S := []) dX0_passage_77 rfl vX0_swaps rfl lX0_83 hc rfl (Nat.le_of_ble_eq_true rfl) (tX0_swaps_no l X d σa τ (c := c) (k := (k)) (z := (z)) (hc := hc) (hk := hk6) (q := q1) (h := hσbf)) ?_
        refine lk_k2 (fun σx hx => ?_)
        have hb := lk_pas_back (eσa).symm nσa hx
        clear hx
        refine lk_cast (pc' := 80) (S' := [lk_vi 0]) rfl rfl rfl ?_
        refine lk_if_eq (tgt := 87) dX0_passage_80 (by decide) (fun h7 => ?_) (fun h7 => absurd h7 (by decide))
        refine lk_iconst (v := 0) dX0_passage_87 (by decide) ?_
        refine lk_goto (tgt := 131) dX0_passage_88 (by decide) ?_
        refine lk_istore (L' := [(0, lk_vr c 0), (1, lk_vi (nI (k))), (2, lk_vi 1), (3, lk_vi (z)), (4, lk_vi (σ c 6 (k))), (5, lk_vi (σ c 6 (k + 1))), (6, lk_vi (σ c 4 (k))), (7, lk_vi (σ c 5 (k))), (8, lk_vi 0)]) dX0_passage_131 (by decide +kernel) rfl ?_
        refine lk_iload dX0_passage_133 rfl ?_
        refine lk_if_ne (tgt := 175) dX0_passage_135 (by decide) (fun h8 => absurd h8 (by decide)) (fun h8 => ?_)
        refine lk_aload_n dX0_passage_138 rfl rfl ?_
        refine lk_getR (f := 6) dX0_passage_139 hc fX0_25 (by decide) (by decide) ?_
        refine lk_iload_n dX0_passage_142 rfl rfl ?_
        refine lk_iload dX0_passage_143 rfl ?_
        refine lk_iastN (f := 6) (i := k) (v := (σ c 6 (k))) dX0_passage_145 hc (by decide) rfl (by omega) (by decide) ?_
        refine lk_aload_n dX0_passage_146 rfl rfl ?_
        refine lk_getR (f := 6) dX0_passage_147 hc fX0_25 (by decide) (by decide) ?_
        refine lk_iload_n dX0_passage_150 rfl rfl ?_
        refine lk_iconst (v := 1) dX0_passage_151 (by decide) ?_
        refine lk_iaddN (a := k) (b := 1) dX0_passage_152 ?_
        refine lk_iload dX0_passage_153 rfl ?_
        refine lk_iastN (f := 6) (i := k + 1) (v := (σ c 6 (k + 1))) dX0_passage_155 hc (by decide) rfl (by omega) (by decide) ?_
        refine lk_aload_n dX0_passage_156 rfl rfl ?_
        refine lk_getR (f := 4) dX0_passage_157 hc fX0_18 (by decide) (by decide) ?_
        refine lk_iload_n dX0_passage_160 rfl rfl ?_
        refine lk_iload dX0_passage_161 rfl ?_
        refine lk_iastN (f := 4) (i := k) (v := (σ c 4 (k))) dX0_passage_163 hc (by decide) rfl (by omega) (by decide) ?_
        refine lk_aload_n dX0_passage_164 rfl rfl ?_
        refine lk_getR (f := 5) dX0_passage_165 hc fX0_21 (by decide) (by decide) ?_
        refine lk_iload_n dX0_passage_168 rfl rfl ?_
        refine lk_iload dX0_passage_169 rfl ?_
        refine lk_zastN (f := 5) (i := k) (v := (σ c 5 (k))) dX0_passage_171 hc (by decide) rfl (by omega) (by decide) h01 ?_
        refine lk_ldc dX0_passage_172 kX0_76 ?_
        refine lk_iret .int dX0_passage_174 rfl rfl ?_
        rw [hQ]
        have hp : lk_pas (σ c) k true z = .inr q1 := by clear hb; simp only [lk_pas]; simp [lk_sb, *, -Int32.zero_sub]
        rw [hp]
        exact ⟨rfl, hb, rfl⟩
    ·
      refine lk_callV (o := c) (as := [lk_vi (nI (k))]) (S := []) dX0_passage_68 rfl vX0_fills rfl lX0_80 hc rfl (Nat.le_of_ble_eq_true rfl) (tX0_fills_no l X d σ τ (c := c) (k := (k)) (hc := hc) (hk := hk6) (q := q1) (h := hσaf)) ?_
      refine lk_k2 (fun σx hx => ?_)
      have hb := lk_pas_back (lk_so_self σ c).symm (lk_near_rf _ _) hx
      clear hx
      refine lk_cast (pc' := 71) (S' := [lk_vi 0]) rfl rfl rfl ?_
      refine lk_if_eq (tgt := 87) dX0_passage_71 (by decide) (fun h9 => ?_) (fun h9 => absurd h9 (by decide))
      refine lk_iconst (v := 0) dX0_passage_87 (by decide) ?_
      refine lk_goto (tgt := 131) dX0_passage_88 (by decide) ?_
      refine lk_istore (L' := [(0, lk_vr c 0), (1, lk_vi (nI (k))), (2, lk_vi 1), (3, lk_vi (z)), (4, lk_vi (σ c 6 (k))), (5, lk_vi (σ c 6 (k + 1))), (6, lk_vi (σ c 4 (k))), (7, lk_vi (σ c 5 (k))), (8, lk_vi 0)]) dX0_passage_131 (by decide +kernel) rfl ?_
      refine lk_iload dX0_passage_133 rfl ?_
      refine lk_if_ne (tgt := 175) dX0_passage_135 (by decide) (fun h10 => absurd h10 (by decide)) (fun h10 => ?_)
      refine lk_aload_n dX0_passage_138 rfl rfl ?_
      refine lk_getR (f := 6) dX0_passage_139 hc fX0_25 (by decide) (by decide) ?_
      refine lk_iload_n dX0_passage_142 rfl rfl ?_
      refine lk_iload dX0_passage_143 rfl ?_
      refine lk_iastN (f := 6) (i := k) (v := (σ c 6 (k))) dX0_passage_145 hc (by decide) rfl (by omega) (by decide) ?_
      refine lk_aload_n dX0_passage_146 rfl rfl ?_
      refine lk_getR (f := 6) dX0_passage_147 hc fX0_25 (by decide) (by decide) ?_
      refine lk_iload_n dX0_passage_150 rfl rfl ?_
      refine lk_iconst (v := 1) dX0_passage_151 (by decide) ?_
      refine lk_iaddN (a := k) (b := 1) dX0_passage_152 ?_
      refine lk_iload dX0_passage_153 rfl ?_
      refine lk_iastN (f := 6) (i := k + 1) (v := (σ c 6 (k + 1))) dX0_passage_155 hc (by decide) rfl (by omega) (by decide) ?_
      refine lk_aload_n dX0_passage_156 rfl rfl ?_
      refine lk_getR (f := 4) dX0_passage_157 hc fX0_18 (by decide) (by decide) ?_
      refine lk_iload_n dX0_passage_160 rfl rfl ?_
      refine lk_iload dX0_passage_161 rfl ?_
      refine lk_iastN (f := 4) (i := k) (v := (σ c 4 (k))) dX0_passage_163 hc (by decide) rfl (by omega) (by decide) ?_
      refine lk_aload_n dX0_passage_164 rfl rfl ?_
      refine lk_getR (f := 5) dX0_passage_165 hc fX0_21 (by decide) (by decide) ?_
      refine lk_iload_n dX0_passage_168 rfl rfl ?_
      refine lk_iload dX0_passage_169 rfl ?_
      refine lk_zastN (f := 5) (i := k) (v := (σ c 5 (k))) dX0_passage_171 hc (by decide) rfl (by omega) (by decide) h01 ?_
      refine lk_ldc dX0_passage_172 kX0_76 ?_
      refine lk_iret .int dX0_passage_174 rfl rfl ?_
      rw [hQ]
      have hp : lk_pas (σ c) k true z = .inr q1 := by clear hb; simp only [lk_pas]; simp [lk_sb, *, -Int32.zero_sub]
      rw [hp]
      exact ⟨rfl, hb, rfl⟩
  ·
    refine lk_aload_n dX0_passage_58 rfl rfl ?_
    refine lk_iload_n dX0_passage_59 rfl rfl ?_
    rcases hσaf : lk_emp (σ c) k with V1 | q1
    ·
      refine lk_callV (o := c) (as := [lk_vi (nI (k))]) (S := []) dX0_passage_60 rfl vX0_empties rfl lX0_77 hc rfl (Nat.le_of_ble_eq_true rfl) (tX0_empties_ok l X d σ τ (c := c) (k := (k)) (hc := hc) (hk := hk6) (hp := (lk_lok_p (hV.2.2.2 k hk6))) (V := V1) (h := hσaf)) ?_
      refine lk_k2 (fun σa hσa => ?_)
      have eσa : lk_so σ c (σa c) = σa := (lk_stp (lk_so_self σ c).symm hσa).symm
      have hvσa := lk_stp_V hσa
      subst hvσa
      clear hσa
      have nσa : lk_near (σ c) (σa c) k := lk_near_tr (lk_near_rf _ _) (lk_emp_near hσaf)
      refine lk_cast (pc' := 63) (S' := [lk_vi 1]) rfl rfl rfl ?_
      refine lk_if_eq (tgt := 87) dX0_passage_63 (by decide) (fun h11 => absurd h11 (by decide)) (fun h11 => ?_)
      refine lk_aload_n dX0_passage_66 rfl rfl ?_
      refine lk_iload_n dX0_passage_67 rfl rfl ?_
      rcases hσbf : lk_fil (σa c) k with V1 | q1
      ·
        refine lk_callV (o := c) (as := [lk_vi (nI (k))]) (S := []) dX0_passage_68 rfl vX0_fills rfl lX0_80 hc rfl (Nat.le_of_ble_eq_true rfl) (tX0_fills_ok l X d σa τ (c := c) (k := (k)) (hc := hc) (hk := hk6) (V := V1) (h := hσbf)) ?_
        refine lk_k2 (fun σb hσb => ?_)
        have eσb : lk_so σ c (σb c) = σb := (lk_stp (eσa).symm hσb).symm
        have hvσb := lk_stp_V hσb
        subst hvσb
        clear hσb
        have nσb : lk_near (σ c) (σb c) k := lk_near_tr nσa (lk_fil_near hσbf)
        refine lk_cast (pc' := 71) (S' := [lk_vi 1]) rfl rfl rfl ?_
        refine lk_if_eq (tgt := 87) dX0_passage_71 (by decide) (fun h12 => absurd h12 (by decide)) (fun h12 => ?_)
        refine lk_aload_n dX0_passage_74 rfl rfl ?_
        refine lk_iload_n dX0_passage_75 rfl rfl ?_
        refine lk_iload_n dX0_passage_76 rfl rfl ?_
        rcases hσdf : lk_swp (σb c) k (z) with V1 | q1
        ·
          refine lk_callV (o := c) (as := [lk_vi (nI (k)), lk_vi (z)]) (S := []) dX0_passage_77 rfl vX0_swaps rfl lX0_83 hc rfl (Nat.le_of_ble_eq_true rfl) (tX0_swaps_ok l X d σb τ (c := c) (k := (k)) (z := (z)) (hc := hc) (hk := hk6) (V := V1) (h := hσdf)) ?_
          refine lk_k2 (fun σd hσd => ?_)
          have eσd : lk_so σ c (σd c) = σd := (lk_stp (eσb).symm hσd).symm
          have hvσd := lk_stp_V hσd
          subst hvσd
          clear hσd
          have nσd : lk_near (σ c) (σd c) k := lk_near_tr nσb (lk_swp_near hσdf)
          refine lk_cast (pc' := 80) (S' := [lk_vi 1]) rfl rfl rfl ?_
          refine lk_if_eq (tgt := 87) dX0_passage_80 (by decide) (fun h13 => absurd h13 (by decide)) (fun h13 => ?_)
          refine lk_iconst (v := 1) dX0_passage_83 (by decide) ?_
          refine lk_goto (tgt := 131) dX0_passage_84 (by decide) ?_
          refine lk_istore (L' := [(0, lk_vr c 0), (1, lk_vi (nI (k))), (2, lk_vi 1), (3, lk_vi (z)), (4, lk_vi (σ c 6 (k))), (5, lk_vi (σ c 6 (k + 1))), (6, lk_vi (σ c 4 (k))), (7, lk_vi (σ c 5 (k))), (8, lk_vi 1)]) dX0_passage_131 (by decide +kernel) rfl ?_
          refine lk_iload dX0_passage_133 rfl ?_
          refine lk_if_ne (tgt := 175) dX0_passage_135 (by decide) (fun h14 => ?_) (fun h14 => absurd h14 (by decide))
          refine lk_iload dX0_passage_175 rfl ?_
          refine lk_aload_n dX0_passage_177 rfl rfl ?_
          refine lk_getR (f := 6) dX0_passage_178 hc fX0_25 (by decide) (by decide) ?_
          refine lk_iload_n dX0_passage_181 rfl rfl ?_
          refine lk_iconst (v := 1) dX0_passage_182 (by decide) ?_
          refine lk_iaddN (a := k) (b := 1) dX0_passage_183 ?_
          refine lk_ialdN (f := 6) (i := k + 1) dX0_passage_184 hc (by decide) rfl (by omega) (by decide) ?_
          refine lk_isub dX0_passage_185 ?_
          refine lk_istore (L' := [(0, lk_vr c 0), (1, lk_vi (nI (k))), (2, lk_vi 1), (3, lk_vi (z)), (4, lk_vi (σ c 6 (k))), (5, lk_vi (σ c 6 (k + 1))), (6, lk_vi (σ c 4 (k))), (7, lk_vi (σ c 5 (k))), (8, lk_vi 1), (9, lk_vi ((σ c 6 (k + 1)) - (σd c 6 (k + 1))))]) dX0_passage_186 (by decide +kernel) rfl ?_
          refine lk_aload_n dX0_passage_188 rfl rfl ?_
          refine lk_getO (f := 10) (o' := (c + 1)) dX0_passage_189 hc fX0_40 (by decide) (by decide) (lk_fo1 hc) ?_
          refine lk_iload dX0_passage_192 rfl ?_
          refine lk_callV (o := (c + 1)) (as := [lk_vi ((σ c 6 (k + 1)) - (σd c 6 (k + 1)))]) (S := []) dX0_passage_194 rfl vX5_add rfl lX0_87 (lk_kc1 hc) rfl (Nat.le_of_ble_eq_true rfl) (tX5_add l X (d + 1) σd τ (t := (c + 1)) (s := ((σ c 6 (k + 1)) - (σd c 6 (k + 1)))) (ht := lk_kc1 hc)) ?_
          refine lk_k3 ?_
          refine lk_cast (pc' := 197) (S' := []) rfl rfl rfl ?_
          refine lk_iload dX0_passage_197 rfl ?_
          refine lk_iret .int dX0_passage_199 rfl rfl ?_
          rw [hQ]
          have hp : lk_pas (σ c) k true z = .inl (σd c) := by simp only [lk_pas]; simp [lk_sb, *, -Int32.zero_sub]
          rw [hp]
          refine ⟨rfl, ?_, rfl⟩
          have h1 : σd (c + 1) = σ (c + 1) := by rw [← eσd]; exact lk_so_ne (by omega)
          show lk_so σd (c + 1) _ = lk_so (lk_so σ c (σd c)) (c + 1) _
          rw [h1, eσd]
        ·
          refine lk_callV (o := c) (as := [lk_vi (nI (k)), lk_vi (z)]) (S := []) dX0_passage_77 rfl vX0_swaps rfl lX0_83 hc rfl (Nat.le_of_ble_eq_true rfl) (tX0_swaps_no l X d σb τ (c := c) (k := (k)) (z := (z)) (hc := hc) (hk := hk6) (q := q1) (h := hσdf)) ?_
          refine lk_k2 (fun σx hx => ?_)
          have hb := lk_pas_back (eσb).symm nσb hx
          clear hx
          refine lk_cast (pc' := 80) (S' := [lk_vi 0]) rfl rfl rfl ?_
          refine lk_if_eq (tgt := 87) dX0_passage_80 (by decide) (fun h15 => ?_) (fun h15 => absurd h15 (by decide))
          refine lk_iconst (v := 0) dX0_passage_87 (by decide) ?_
          refine lk_goto (tgt := 131) dX0_passage_88 (by decide) ?_
          refine lk_istore (L' := [(0, lk_vr c 0), (1, lk_vi (nI (k))), (2, lk_vi 1), (3, lk_vi (z)), (4, lk_vi (σ c 6 (k))), (5, lk_vi (σ c 6 (k + 1))), (6, lk_vi (σ c 4 (k))), (7, lk_vi (σ c 5 (k))), (8, lk_vi 0)]) dX0_passage_131 (by decide +kernel) rfl ?_
          refine lk_iload dX0_passage_133 rfl ?_
          refine lk_if_ne (tgt := 175) dX0_passage_135 (by decide) (fun h16 => absurd h16 (by decide)) (fun h16 => ?_)
          refine lk_aload_n dX0_passage_138 rfl rfl ?_
          refine lk_getR (f := 6) dX0_passage_139 hc fX0_25 (by decide) (by decide) ?_
          refine lk_iload_n dX0_passage_142 rfl rfl ?_
          refine lk_iload dX0_passage_143 rfl ?_
          refine lk_iastN (f := 6) (i := k) (v := (σ c 6 (k))) dX0_passage_145 hc (by decide) rfl (by omega) (by decide) ?_
          refine lk_aload_n dX0_passage_146 rfl rfl ?_
          refine lk_getR (f := 6) dX0_passage_147 hc fX0_25 (by decide) (by decide) ?_
          refine lk_iload_n dX0_passage_150 rfl rfl ?_
          refine lk_iconst (v := 1) dX0_passage_151 (by decide) ?_
          refine lk_iaddN (a := k) (b := 1) dX0_passage_152 ?_
          refine lk_iload dX0_passage_153 rfl ?_
          refine lk_iastN (f := 6) (i := k + 1) (v := (σ c 6 (k + 1))) dX0_passage_155 hc (by decide) rfl (by omega) (by decide) ?_
          refine lk_aload_n dX0_passage_156 rfl rfl ?_
          refine lk_getR (f := 4) dX0_passage_157 hc fX0_18 (by decide) (by decide) ?_
          refine lk_iload_n dX0_passage_160 rfl rfl ?_
          refine lk_iload dX0_passage_161 rfl ?_
          refine lk_iastN (f := 4) (i := k) (v := (σ c 4 (k))) dX0_passage_163 hc (by decide) rfl (by omega) (by decide) ?_
          refine lk_aload_n dX0_passage_164 rfl rfl ?_
          refine lk_getR (f := 5) dX0_passage_165 hc fX0_21 (by decide) (by decide) ?_
          refine lk_iload_n dX0_passage_168 rfl rfl ?_
          refine lk_iload dX0_passage_169 rfl ?_
          refine lk_zastN (f := 5) (i := k) (v := (σ c 5 (k))) dX0_passage_171 hc (by decide) rfl (by omega) (by decide) h01 ?_
          refine lk_ldc dX0_passage_172 kX0_76 ?_
          refine lk_iret .int dX0_passage_174 rfl rfl ?_
          rw [hQ]
          have hp : lk_pas (σ c) k true z = .inr q1 := by clear hb; simp only [lk_pas]; simp [lk_sb, *, -Int32.zero_sub]
          rw [hp]
          exact ⟨rfl, hb, rfl⟩
      ·
        refine lk_callV (o := c) (as := [lk_vi (nI (k))]) (S := []) dX0_passage_68 rfl vX0_fills rfl lX0_80 hc rfl (Nat.le_of_ble_eq_true rfl) (tX0_fills_no l X d σa τ (c := c) (k := (k)) (hc := hc) (hk := hk6) (q := q1) (h := hσbf)) ?_
        refine lk_k2 (fun σx hx => ?_)
        have hb := lk_pas_back (eσa).symm nσa hx
        clear hx
        refine lk_cast (pc' := 71) (S' := [lk_vi 0]) rfl rfl rfl ?_
        refine lk_if_eq (tgt := 87) dX0_passage_71 (by decide) (fun h17 => ?_) (fun h17 => absurd h17 (by decide))
        refine lk_iconst (v := 0) dX0_passage_87 (by decide) ?_
        refine lk_goto (tgt := 131) dX0_passage_88 (by decide) ?_
        refine lk_istore (L' := [(0, lk_vr c 0), (1, lk_vi (nI (k))), (2, lk_vi 1), (3, lk_vi (z)), (4, lk_vi (σ c 6 (k))), (5, lk_vi (σ c 6 (k + 1))), (6, lk_vi (σ c 4 (k))), (7, lk_vi (σ c 5 (k))), (8, lk_vi 0)]) dX0_passage_131 (by decide +kernel) rfl ?_
        refine lk_iload dX0_passage_133 rfl ?_
        refine lk_if_ne (tgt := 175) dX0_passage_135 (by decide) (fun h18 => absurd h18 (by decide)) (fun h18 => ?_)
        refine lk_aload_n dX0_passage_138 rfl rfl ?_
        refine lk_getR (f := 6) dX0_passage_139 hc fX0_25 (by decide) (by decide) ?_
        refine lk_iload_n dX0_passage_142 rfl rfl ?_
        refine lk_iload dX0_passage_143 rfl ?_
        refine lk_iastN (f := 6) (i := k) (v := (σ c 6 (k))) dX0_passage_145 hc (by decide) rfl (by omega) (by decide) ?_
        refine lk_aload_n dX0_passage_146 rfl rfl ?_
        refine lk_getR (f := 6) dX0_passage_147 hc fX0_25 (by decide) (by decide) ?_
        refine lk_iload_n dX0_passage_150 rfl rfl ?_
        refine lk_iconst (v := 1) dX0_passage_151 (by decide) ?_
        refine lk_iaddN (a := k) (b := 1) dX0_passage_152 ?_
        refine lk_iload dX0_passage_153 rfl ?_
        refine lk_iastN (f := 6) (i := k + 1) (v := (σ c 6 (k + 1))) dX0_passage_155 hc (by decide) rfl (by omega) (by decide) ?_
        refine lk_aload_n dX0_passage_156 rfl rfl ?_
        refine lk_getR (f := 4) dX0_passage_157 hc fX0_18 (by decide) (by decide) ?_
        refine lk_iload_n dX0_passage_160 rfl rfl ?_
        refine lk_iload dX0_passage_161 rfl ?_
        refine lk_iastN (f := 4) (i := k) (v := (σ c 4 (k))) dX0_passage_163 hc (by decide) rfl (by omega) (by decide) ?_
        refine lk_aload_n dX0_passage_164 rfl rfl ?_
        refine lk_getR (f := 5) dX0_passage_165 hc fX0_21 (by decide) (by decide) ?_
        refine lk_iload_n dX0_passage_168 rfl rfl ?_
        refine lk_iload dX0_passage_169 rfl ?_
        refine lk_zastN (f := 5) (i := k) (v := (σ c 5 (k))) dX0_passage_171 hc (by decide) rfl (by omega) (by decide) h01 ?_
        refine lk_ldc dX0_passage_172 kX0_76 ?_
        refine lk_iret .int dX0_passage_174 rfl rfl ?_
        rw [hQ]
        have hp : lk_pas (σ c) k true z = .inr q1 := by clear hb; simp only [lk_pas]; simp [lk_sb, *, -Int32.zero_sub]
        rw [hp]
        exact ⟨rfl, hb, rfl⟩
    ·
      refine lk_callV (o := c) (as := [lk_vi (nI (k))]) (S := []) dX0_passage_60 rfl vX0_empties rfl lX0_77 hc rfl (Nat.le_of_ble_eq_true rfl) (tX0_empties_no l X d σ τ (c := c) (k := (k)) (hc := hc) (hk := hk6) (hp := (lk_lok_p (hV.2.2.2 k hk6))) (q := q1) (h := hσaf)) ?_
      refine lk_k2 (fun σx hx => ?_)
      have hb := lk_pas_back (lk_so_self σ c).symm (lk_near_rf _ _) hx
      clear hx
      refine lk_cast (pc' := 63) (S' := [lk_vi 0]) rfl rfl rfl ?_
      refine lk_if_eq (tgt := 87) dX0_passage_63 (by decide) (fun h19 => ?_) (fun h19 => absurd h19 (by decide))
      refine lk_iconst (v := 0) dX0_passage_87 (by decide) ?_
      refine lk_goto (tgt := 131) dX0_passage_88 (by decide) ?_
      refine lk_istore (L' := [(0, lk_vr c 0), (1, lk_vi (nI (k))), (2, lk_vi 1), (3, lk_vi (z)), (4, lk_vi (σ c 6 (k))), (5, lk_vi (σ c 6 (k + 1))), (6, lk_vi (σ c 4 (k))), (7, lk_vi (σ c 5 (k))), (8, lk_vi 0)]) dX0_passage_131 (by decide +kernel) rfl ?_
      refine lk_iload dX0_passage_133 rfl ?_
      refine lk_if_ne (tgt := 175) dX0_passage_135 (by decide) (fun h20 => absurd h20 (by decide)) (fun h20 => ?_)
      refine lk_aload_n dX0_passage_138 rfl rfl ?_
      refine lk_getR (f := 6) dX0_passage_139 hc fX0_25 (by decide) (by decide) ?_
      refine lk_iload_n dX0_passage_142 rfl rfl ?_
      refine lk_iload dX0_passage_143 rfl ?_
      refine lk_iastN (f := 6) (i := k) (v := (σ c 6 (k))) dX0_passage_145 hc (by decide) rfl (by omega) (by decide) ?_
      refine lk_aload_n dX0_passage_146 rfl rfl ?_
      refine lk_getR (f := 6) dX0_passage_147 hc fX0_25 (by decide) (by decide) ?_
      refine lk_iload_n dX0_passage_150 rfl rfl ?_
      refine lk_iconst (v := 1) dX0_passage_151 (by decide) ?_
      refine lk_iaddN (a := k) (b := 1) dX0_passage_152 ?_
      refine lk_iload dX0_passage_153 rfl ?_
      refine lk_iastN (f := 6) (i := k + 1) (v := (σ c 6 (k + 1))) dX0_passage_155 hc (by decide) rfl (by omega) (by decide) ?_
      refine lk_aload_n dX0_passage_156 rfl rfl ?_
      refine lk_getR (f := 4) dX0_passage_157 hc fX0_18 (by decide) (by decide) ?_
      refine lk_iload_n dX0_passage_160 rfl rfl ?_
      refine lk_iload dX0_passage_161 rfl ?_
      refine lk_iastN (f := 4) (i := k) (v := (σ c 4 (k))) dX0_passage_163 hc (by decide) rfl (by omega) (by decide) ?_
      refine lk_aload_n dX0_passage_164 rfl rfl ?_
      refine lk_getR (f := 5) dX0_passage_165 hc fX0_21 (by decide) (by decide) ?_
      refine lk_iload_n dX0_passage_168 rfl rfl ?_
      refine lk_iload dX0_passage_169 rfl ?_
      refine lk_zastN (f := 5) (i := k) (v := (σ c 5 (k))) dX0_passage_171 hc (by decide) rfl (by omega) (by decide) h01 ?_
      refine lk_ldc dX0_passage_172 kX0_76 ?_
      refine lk_iret .int dX0_passage_174 rfl rfl ?_
      rw [hQ]
      have hp : lk_pas (σ c) k true z = .inr q1 := by clear hb; simp only [lk_pas]; simp [lk_sb, *, -Int32.zero_sub]
      rw [hp]
      exact ⟨rfl, hb, rfl⟩

set_option maxHeartbeats 4000000 in
set_option maxRecDepth 100000 in
theorem tX0_passage_dn (l : Launch) (X : lk_G) (d : Nat) (σ : lk_N) (τ : lk_T) (c : Nat) (hc : lk_ko c = 0) (n k : Nat) (z : Int32) (hV : lk_cok (σ c) n) (hk : k < n) : lk_Mt l X mX0_passage (d + 2) [lk_vr c 0, lk_vi (nI (k)), lk_vi 0, lk_vi (z)] σ τ (fun rr σ1 τ1 => rr = some (lk_vi (lk_paR (σ c) k (lk_pas (σ c) k false z))) ∧ σ1 = lk_paS σ c k (lk_pas (σ c) k false z) ∧ τ1 = τ) := by
  refine lk_met (L := [(0, lk_vr c 0), (1, lk_vi (nI (k))), (2, lk_vi 0), (3, lk_vi (z))]) (by decide +kernel) (Nat.le_of_ble_eq_true rfl) rfl ?_
  obtain ⟨Q, hQ⟩ : ∃ Q : lk_Q, Q = fun rr σ1 τ1 => rr = some (lk_vi (lk_paR (σ c) k (lk_pas (σ c) k false z))) ∧ σ1 = lk_paS σ c k (lk_pas (σ c) k false z) ∧ τ1 = τ := ⟨_, rfl⟩
  rw [← hQ]
  have hk6 : k < 6 := Nat.lt_of_lt_of_le hk hV.2.2.1
  have h01 := (hV.2.2.2 k hk6).2.2.2.2.2.2
  refine lk_aload_n dX0_passage_0 rfl rfl ?_
  refine lk_iload_n dX0_passage_1 rfl rfl ?_
  refine lk_callV (o := c) (as := [lk_vi (nI (k))]) (S := []) dX0_passage_2 rfl vX0_hasLock rfl lX0_68 hc rfl (Nat.le_of_ble_eq_true rfl) (tX0_hasLock_in l X (d + 1) σ τ (c := c) (k := (k)) (hc := hc) (n := n) (hn := hV.1) (hk := hk) (hn6 := hV.2.2.1)) ?_
  refine lk_k3 ?_
  refine lk_cast (pc' := 5) (S' := [lk_vi 1]) rfl rfl rfl ?_
  refine lk_if_ne (tgt := 11) dX0_passage_5 (by decide) (fun h1 => ?_) (fun h1 => absurd h1 (by decide))
  refine lk_aload_n dX0_passage_11 rfl rfl ?_
  refine lk_getR (f := 6) dX0_passage_12 hc fX0_25 (by decide) (by decide) ?_
  refine lk_iload_n dX0_passage_15 rfl rfl ?_
  refine lk_ialdN (f := 6) (i := k) dX0_passage_16 hc (by decide) rfl (by omega) (by decide) ?_
  refine lk_istore (L' := [(0, lk_vr c 0), (1, lk_vi (nI (k))), (2, lk_vi 0), (3, lk_vi (z)), (4, lk_vi (σ c 6 (k)))]) dX0_passage_17 (by decide +kernel) rfl ?_
  refine lk_aload_n dX0_passage_19 rfl rfl ?_
  refine lk_getR (f := 6) dX0_passage_20 hc fX0_25 (by decide) (by decide) ?_
  refine lk_iload_n dX0_passage_23 rfl rfl ?_
  refine lk_iconst (v := 1) dX0_passage_24 (by decide) ?_
  refine lk_iaddN (a := k) (b := 1) dX0_passage_25 ?_
  refine lk_ialdN (f := 6) (i := k + 1) dX0_passage_26 hc (by decide) rfl (by omega) (by decide) ?_
  refine lk_istore (L' := [(0, lk_vr c 0), (1, lk_vi (nI (k))), (2, lk_vi 0), (3, lk_vi (z)), (4, lk_vi (σ c 6 (k))), (5, lk_vi (σ c 6 (k + 1)))]) dX0_passage_27 (by decide +kernel) rfl ?_
  refine lk_aload_n dX0_passage_29 rfl rfl ?_
  refine lk_getR (f := 4) dX0_passage_30 hc fX0_18 (by decide) (by decide) ?_
  refine lk_iload_n dX0_passage_33 rfl rfl ?_
  refine lk_ialdN (f := 4) (i := k) dX0_passage_34 hc (by decide) rfl (by omega) (by decide) ?_
  refine lk_istore (L' := [(0, lk_vr c 0), (1, lk_vi (nI (k))), (2, lk_vi 0), (3, lk_vi (z)), (4, lk_vi (σ c 6 (k))), (5, lk_vi (σ c 6 (k + 1))), (6, lk_vi (σ c 4 (k)))]) dX0_passage_35 (by decide +kernel) rfl ?_
  refine lk_aload_n dX0_passage_37 rfl rfl ?_
  refine lk_getR (f := 5) dX0_passage_38 hc fX0_21 (by decide) (by decide) ?_
  refine lk_iload_n dX0_passage_41 rfl rfl ?_
  refine lk_zaldN (f := 5) (i := k) dX0_passage_42 hc (by decide) rfl (by omega) (by decide) ?_
  refine lk_istore (L' := [(0, lk_vr c 0), (1, lk_vi (nI (k))), (2, lk_vi 0), (3, lk_vi (z)), (4, lk_vi (σ c 6 (k))), (5, lk_vi (σ c 6 (k + 1))), (6, lk_vi (σ c 4 (k))), (7, lk_vi (σ c 5 (k)))]) dX0_passage_43 (by decide +kernel) rfl ?_
  refine lk_iload_n dX0_passage_45 rfl rfl ?_
  refine lk_if_eq (tgt := 91) dX0_passage_46 (by decide) (fun h2 => ?_) (fun h2 => absurd h2 (by decide))
  refine lk_aload_n dX0_passage_91 rfl rfl ?_
  refine lk_getR (f := 5) dX0_passage_92 hc fX0_21 (by decide) (by decide) ?_
  refine lk_iload_n dX0_passage_95 rfl rfl ?_
  refine lk_zaldN (f := 5) (i := k) dX0_passage_96 hc (by decide) rfl (by omega) (by decide) ?_
  refine lk_if_ne (tgt := 108) dX0_passage_97 (by decide) (fun h3 => ?_) (fun h3 => ?_)
  ·
    refine lk_aload_n dX0_passage_108 rfl rfl ?_
    refine lk_iload_n dX0_passage_109 rfl rfl ?_
    rcases hσaf : lk_emp (σ c) k with V1 | q1
    ·
      refine lk_callV (o := c) (as := [lk_vi (nI (k))]) (S := []) dX0_passage_110 rfl vX0_empties rfl lX0_77 hc rfl (Nat.le_of_ble_eq_true rfl) (tX0_empties_ok l X d σ τ (c := c) (k := (k)) (hc := hc) (hk := hk6) (hp := (lk_lok_p (hV.2.2.2 k hk6))) (V := V1) (h := hσaf)) ?_
      refine lk_k2 (fun σa hσa => ?_)
      have eσa : lk_so σ c (σa c) = σa := (lk_stp (lk_so_self σ c).symm hσa).symm
      have hvσa := lk_stp_V hσa
      subst hvσa
      clear hσa
      have nσa : lk_near (σ c) (σa c) k := lk_near_tr (lk_near_rf _ _) (lk_emp_near hσaf)
      refine lk_cast (pc' := 113) (S' := [lk_vi 1]) rfl rfl rfl ?_
      refine lk_if_eq (tgt := 130) dX0_passage_113 (by decide) (fun h4 => absurd h4 (by decide)) (fun h4 => ?_)
      refine lk_aload_n dX0_passage_116 rfl rfl ?_
      refine lk_iload_n dX0_passage_117 rfl rfl ?_
      refine lk_iload_n dX0_passage_118 rfl rfl ?_
      refine lk_ineg dX0_passage_119 ?_
      rcases hσbf : lk_swp (σa c) k (0 - (z)) with V1 | q1
      ·
        refine lk_callV (o := c) (as := [lk_vi (nI (k)), lk_vi (0 - (z))]) (S := []) dX0_passage_120 rfl vX0_swaps rfl lX0_83 hc rfl (Nat.le_of_ble_eq_true rfl) (tX0_swaps_ok l X d σa τ (c := c) (k := (k)) (z := (0 - (z))) (hc := hc) (hk := hk6) (V := V1) (h := hσbf)) ?_
        refine lk_k2 (fun σb hσb => ?_)
        have eσb : lk_so σ c (σb c) = σb := (lk_stp (eσa).symm hσb).symm
        have hvσb := lk_stp_V hσb
        subst hvσb
        clear hσb
        have nσb : lk_near (σ c) (σb c) k := lk_near_tr nσa (lk_swp_near hσbf)
        refine lk_cast (pc' := 123) (S' := [lk_vi 1]) rfl rfl rfl ?_
        refine lk_if_eq (tgt := 130) dX0_passage_123 (by decide) (fun h5 => absurd h5 (by decide)) (fun h5 => ?_)
        refine lk_iconst (v := 1) dX0_passage_126 (by decide) ?_
        refine lk_goto (tgt := 131) dX0_passage_127 (by decide) ?_
        refine lk_istore (L' := [(0, lk_vr c 0), (1, lk_vi (nI (k))), (2, lk_vi 0), (3, lk_vi (z)), (4, lk_vi (σ c 6 (k))), (5, lk_vi (σ c 6 (k + 1))), (6, lk_vi (σ c 4 (k))), (7, lk_vi (σ c 5 (k))), (8, lk_vi 1)]) dX0_passage_131 (by decide +kernel) rfl ?_
        refine lk_iload dX0_passage_133 rfl ?_
        refine lk_if_ne (tgt := 175) dX0_passage_135 (by decide) (fun h6 => ?_) (fun h6 => absurd h6 (by decide))
        refine lk_iload dX0_passage_175 rfl ?_
        refine lk_aload_n dX0_passage_177 rfl rfl ?_
        refine lk_getR (f := 6) dX0_passage_178 hc fX0_25 (by decide) (by decide) ?_
        refine lk_iload_n dX0_passage_181 rfl rfl ?_
        refine lk_iconst (v := 1) dX0_passage_182 (by decide) ?_
        refine lk_iaddN (a := k) (b := 1) dX0_passage_183 ?_
        refine lk_ialdN (f := 6) (i := k + 1) dX0_passage_184 hc (by decide) rfl (by omega) (by decide) ?_
        refine lk_isub dX0_passage_185 ?_
        refine lk_istore (L' := [(0, lk_vr c 0), (1, lk_vi (nI (k))), (2, lk_vi 0), (3, lk_vi (z)), (4, lk_vi (σ c 6 (k))), (5, lk_vi (σ c 6 (k + 1))), (6, lk_vi (σ c 4 (k))), (7, lk_vi (σ c 5 (k))), (8, lk_vi 1), (9, lk_vi ((σ c 6 (k + 1)) - (σb c 6 (k + 1))))]) dX0_passage_186 (by decide +kernel) rfl ?_
        refine lk_aload_n dX0_passage_188 rfl rfl ?_
        refine lk_getO (f := 10) (o' := (c + 1)) dX0_passage_189 hc fX0_40 (by decide) (by decide) (lk_fo1 hc) ?_
        refine lk_iload dX0_passage_192 rfl ?_
        refine lk_callV (o := (c + 1)) (as := [lk_vi ((σ c 6 (k + 1)) - (σb c 6 (k + 1)))]) (S := []) dX0_passage_194 rfl vX5_add rfl lX0_87 (lk_kc1 hc) rfl (Nat.le_of_ble_eq_true rfl) (tX5_add l X (d + 1) σb τ (t := (c + 1)) (s := ((σ c 6 (k + 1)) - (σb c 6 (k + 1)))) (ht := lk_kc1 hc)) ?_
        refine lk_k3 ?_
        refine lk_cast (pc' := 197) (S' := []) rfl rfl rfl ?_
        refine lk_iload dX0_passage_197 rfl ?_
        refine lk_iret .int dX0_passage_199 rfl rfl ?_
        rw [hQ]
        have hp : lk_pas (σ c) k false z = .inl (σb c) := by simp only [lk_pas]; simp [lk_sb, *, -Int32.zero_sub]
        rw [hp]
        refine ⟨rfl, ?_, rfl⟩
        have h1 : σb (c + 1) = σ (c + 1) := by rw [← eσb]; exact lk_so_ne (by omega)
        show lk_so σb (c + 1) _ = lk_so (lk_so σ c (σb c)) (c + 1) _
        rw [h1, eσb]
      ·
        refine lk_callV (o := c) (as := [lk_vi (nI (k)), lk_vi (0 - (z))]) (S := []) dX0_passage_120 rfl vX0_swaps rfl lX0_83 hc rfl (Nat.le_of_ble_eq_true rfl) (tX0_swaps_no l X d σa τ (c := c) (k := (k)) (z := (0 - (z))) (hc := hc) (hk := hk6) (q := q1) (h := hσbf)) ?_
        refine lk_k2 (fun σx hx => ?_)
        have hb := lk_pas_back (eσa).symm nσa hx
        clear hx
        refine lk_cast (pc' := 123) (S' := [lk_vi 0]) rfl rfl rfl ?_
        refine lk_if_eq (tgt := 130) dX0_passage_123 (by decide) (fun h7 => ?_) (fun h7 => absurd h7 (by decide))
        refine lk_iconst (v := 0) dX0_passage_130 (by decide) ?_
        refine lk_istore (L' := [(0, lk_vr c 0), (1, lk_vi (nI (k))), (2, lk_vi 0), (3, lk_vi (z)), (4, lk_vi (σ c 6 (k))), (5, lk_vi (σ c 6 (k + 1))), (6, lk_vi (σ c 4 (k))), (7, lk_vi (σ c 5 (k))), (8, lk_vi 0)]) dX0_passage_131 (by decide +kernel) rfl ?_
        refine lk_iload dX0_passage_133 rfl ?_
        refine lk_if_ne (tgt := 175) dX0_passage_135 (by decide) (fun h8 => absurd h8 (by decide)) (fun h8 => ?_)
        refine lk_aload_n dX0_passage_138 rfl rfl ?_
        refine lk_getR (f := 6) dX0_passage_139 hc fX0_25 (by decide) (by decide) ?_
        refine lk_iload_n dX0_passage_142 rfl rfl ?_
        refine lk_iload dX0_passage_143 rfl ?_
        refine lk_iastN (f := 6) (i := k) (v := (σ c 6 (k))) dX0_passage_145 hc (by decide) rfl (by omega) (by decide) ?_
        refine lk_aload_n dX0_passage_146 rfl rfl ?_
        refine lk_getR (f := 6) dX0_passage_147 hc fX0_25 (by decide) (by decide) ?_
        refine lk_iload_n dX0_passage_150 rfl rfl ?_
        refine lk_iconst (v := 1) dX0_passage_151 (by decide) ?_
        refine lk_iaddN (a := k) (b := 1) dX0_passage_152 ?_
        refine lk_iload dX0_passage_153 rfl ?_
        refine lk_iastN (f := 6) (i := k + 1) (v := (σ c 6 (k + 1))) dX0_passage_155 hc (by decide) rfl (by omega) (by decide) ?_
        refine lk_aload_n dX0_passage_156 rfl rfl ?_
        refine lk_getR (f := 4) dX0_passage_157 hc fX0_18 (by decide) (by decide) ?_
        refine lk_iload_n dX0_passage_160 rfl rfl ?_
        refine lk_iload dX0_passage_161 rfl ?_
        refine lk_iastN (f := 4) (i := k) (v := (σ c 4 (k))) dX0_passage_163 hc (by decide) rfl (by omega) (by decide) ?_
        refine lk_aload_n dX0_passage_164 rfl rfl ?_
        refine lk_getR (f := 5) dX0_passage_165 hc fX0_21 (by decide) (by decide) ?_
        refine lk_iload_n dX0_passage_168 rfl rfl ?_
        refine lk_iload dX0_passage_169 rfl ?_
        refine lk_zastN (f := 5) (i := k) (v := (σ c 5 (k))) dX0_passage_171 hc (by decide) rfl (by omega) (by decide) h01 ?_
        refine lk_ldc dX0_passage_172 kX0_76 ?_
        refine lk_iret .int dX0_passage_174 rfl rfl ?_
        rw [hQ]
        have hp : lk_pas (σ c) k false z = .inr q1 := by clear hb; simp only [lk_pas]; simp [lk_sb, *, -Int32.zero_sub]
        rw [hp]
        exact ⟨rfl, hb, rfl⟩
    ·
      refine lk_callV (o := c) (as := [lk_vi (nI (k))]) (S := []) dX0_passage_110 rfl vX0_empties rfl lX0_77 hc rfl (Nat.le_of_ble_eq_true rfl) (tX0_empties_no l X d σ τ (c := c) (k := (k)) (hc := hc) (hk := hk6) (hp := (lk_lok_p (hV.2.2.2 k hk6))) (q := q1) (h := hσaf)) ?_
      refine lk_k2 (fun σx hx => ?_)
      have hb := lk_pas_back (lk_so_self σ c).symm (lk_near_rf _ _) hx
      clear hx
      refine lk_cast (pc' := 113) (S' := [lk_vi 0]) rfl rfl rfl ?_
      refine lk_if_eq (tgt := 130) dX0_passage_113 (by decide) (fun h9 => ?_) (fun h9 => absurd h9 (by decide))
      refine lk_iconst (v := 0) dX0_passage_130 (by decide) ?_
      refine lk_istore (L' := [(0, lk_vr c 0), (1, lk_vi (nI (k))), (2, lk_vi 0), (3, lk_vi (z)), (4, lk_vi (σ c 6 (k))), (5, lk_vi (σ c 6 (k + 1))), (6, lk_vi (σ c 4 (k))), (7, lk_vi (σ c 5 (k))), (8, lk_vi 0)]) dX0_passage_131 (by decide +kernel) rfl ?_
      refine lk_iload dX0_passage_133 rfl ?_
      refine lk_if_ne (tgt := 175) dX0_passage_135 (by decide) (fun h10 => absurd h10 (by decide)) (fun h10 => ?_)
      refine lk_aload_n dX0_passage_138 rfl rfl ?_
      refine lk_getR (f := 6) dX0_passage_139 hc fX0_25 (by decide) (by decide) ?_
      refine lk_iload_n dX0_passage_142 rfl rfl ?_
      refine lk_iload dX0_passage_143 rfl ?_
      refine lk_iastN (f := 6) (i := k) (v := (σ c 6 (k))) dX0_passage_145 hc (by decide) rfl (by omega) (by decide) ?_
      refine lk_aload_n dX0_passage_146 rfl rfl ?_
      refine lk_getR (f := 6) dX0_passage_147 hc fX0_25 (by decide) (by decide) ?_
      refine lk_iload_n dX0_passage_150 rfl rfl ?_
      refine lk_iconst (v := 1) dX0_passage_151 (by decide) ?_
      refine lk_iaddN (a := k) (b := 1) dX0_passage_152 ?_
      refine lk_iload dX0_passage_153 rfl ?_
      refine lk_iastN (f := 6) (i := k + 1) (v := (σ c 6 (k + 1))) dX0_passage_155 hc (by decide) rfl (by omega) (by decide) ?_
      refine lk_aload_n dX0_passage_156 rfl rfl ?_
      refine lk_getR (f := 4) dX0_passage_157 hc fX0_18 (by decide) (by decide) ?_
      refine lk_iload_n dX0_passage_160 rfl rfl ?_
      refine lk_iload dX0_passage_161 rfl ?_
      refine lk_iastN (f := 4) (i := k) (v := (σ c 4 (k))) dX0_passage_163 hc (by decide) rfl (by omega) (by decide) ?_
      refine lk_aload_n dX0_passage_164 rfl rfl ?_
      refine lk_getR (f := 5) dX0_passage_165 hc fX0_21 (by decide) (by decide) ?_
      refine lk_iload_n dX0_passage_168 rfl rfl ?_
      refine lk_iload dX0_passage_169 rfl ?_
      refine lk_zastN (f := 5) (i := k) (v := (σ c 5 (k))) dX0_passage_171 hc (by decide) rfl (by omega) (by decide) h01 ?_
      refine lk_ldc dX0_passage_172 kX0_76 ?_
      refine lk_iret .int dX0_passage_174 rfl rfl ?_
      rw [hQ]
      have hp : lk_pas (σ c) k false z = .inr q1 := by clear hb; simp only [lk_pas]; simp [lk_sb, *, -Int32.zero_sub]
      rw [hp]
      exact ⟨rfl, hb, rfl⟩
  ·
    refine lk_aload_n dX0_passage_100 rfl rfl ?_
    refine lk_iload_n dX0_passage_101 rfl rfl ?_
    rcases hσaf : lk_fil (σ c) k with V1 | q1
    ·
      refine lk_callV (o := c) (as := [lk_vi (nI (k))]) (S := []) dX0_passage_102 rfl vX0_fills rfl lX0_80 hc rfl (Nat.le_of_ble_eq_true rfl) (tX0_fills_ok l X d σ τ (c := c) (k := (k)) (hc := hc) (hk := hk6) (V := V1) (h := hσaf)) ?_
      refine lk_k2 (fun σa hσa => ?_)
      have eσa : lk_so σ c (σa c) = σa := (lk_stp (lk_so_self σ c).symm hσa).symm
      have hvσa := lk_stp_V hσa
      subst hvσa
      clear hσa
      have nσa : lk_near (σ c) (σa c) k := lk_near_tr (lk_near_rf _ _) (lk_fil_near hσaf)
      refine lk_cast (pc' := 105) (S' := [lk_vi 1]) rfl rfl rfl ?_
      refine lk_if_eq (tgt := 130) dX0_passage_105 (by decide) (fun h11 => absurd h11 (by decide)) (fun h11 => ?_)
      refine lk_aload_n dX0_passage_108 rfl rfl ?_
      refine lk_iload_n dX0_passage_109 rfl rfl ?_
      rcases hσbf : lk_emp (σa c) k with V1 | q1
      ·
        refine lk_callV (o := c) (as := [lk_vi (nI (k))]) (S := []) dX0_passage_110 rfl vX0_empties rfl lX0_77 hc rfl (Nat.le_of_ble_eq_true rfl) (tX0_empties_ok l X d σa τ (c := c) (k := (k)) (hc := hc) (hk := hk6) (hp := (by rw [lk_near_3 nσa]; exact lk_lok_p (hV.2.2.2 k hk6))) (V := V1) (h := hσbf)) ?_
        refine lk_k2 (fun σb hσb => ?_)
        have eσb : lk_so σ c (σb c) = σb := (lk_stp (eσa).symm hσb).symm
        have hvσb := lk_stp_V hσb
        subst hvσb
        clear hσb
        have nσb : lk_near (σ c) (σb c) k := lk_near_tr nσa (lk_emp_near hσbf)
        refine lk_cast (pc' := 113) (S' := [lk_vi 1]) rfl rfl rfl ?_
        refine lk_if_eq (tgt := 130) dX0_passage_113 (by decide) (fun h12 => absurd h12 (by decide)) (fun h12 => ?_)
        refine lk_aload_n dX0_passage_116 rfl rfl ?_
        refine lk_iload_n dX0_passage_117 rfl rfl ?_
        refine lk_iload_n dX0_passage_118 rfl rfl ?_
        refine lk_ineg dX0_passage_119 ?_
        rcases hσdf : lk_swp (σb c) k (0 - (z)) with V1 | q1
        ·
          refine lk_callV (o := c) (as := [lk_vi (nI (k)), lk_vi (0 - (z))]) (S := []) dX0_passage_120 rfl vX0_swaps rfl lX0_83 hc rfl (Nat.le_of_ble_eq_true rfl) (tX0_swaps_ok l X d σb τ (c := c) (k := (k)) (z := (0 - (z))) (hc := hc) (hk := hk6) (V := V1) (h := hσdf)) ?_
          refine lk_k2 (fun σd hσd => ?_)
          have eσd : lk_so σ c (σd c) = σd := (lk_stp (eσb).symm hσd).symm
          have hvσd := lk_stp_V hσd
          subst hvσd
          clear hσd
          have nσd : lk_near (σ c) (σd c) k := lk_near_tr nσb (lk_swp_near hσdf)
          refine lk_cast (pc' := 123) (S' := [lk_vi 1]) rfl rfl rfl ?_
          refine lk_if_eq (tgt := 130) dX0_passage_123 (by decide) (fun h13 => absurd h13 (by decide)) (fun h13 => ?_)
          refine lk_iconst (v := 1) dX0_passage_126 (by decide) ?_
          refine lk_goto (tgt := 131) dX0_passage_127 (by decide) ?_
          refine lk_istore (L' := [(0, lk_vr c 0), (1, lk_vi (nI (k))), (2, lk_vi 0), (3, lk_vi (z)), (4, lk_vi (σ c 6 (k))), (5, lk_vi (σ c 6 (k + 1))), (6, lk_vi (σ c 4 (k))), (7, lk_vi (σ c 5 (k))), (8, lk_vi 1)]) dX0_passage_131 (by decide +kernel) rfl ?_
          refine lk_iload dX0_passage_133 rfl ?_
          refine lk_if_ne (tgt := 175) dX0_passage_135 (by decide) (fun h14 => ?_) (fun h14 => absurd h14 (by decide))
          refine lk_iload dX0_passage_175 rfl ?_
          refine lk_aload_n dX0_passage_177 rfl rfl ?_
          refine lk_getR (f := 6) dX0_passage_178 hc fX0_25 (by decide) (by decide) ?_
          refine lk_iload_n dX0_passage_181 rfl rfl ?_
          refine lk_iconst (v := 1) dX0_passage_182 (by decide) ?_
          refine lk_iaddN (a := k) (b := 1) dX0_passage_183 ?_
          refine lk_ialdN (f := 6) (i := k + 1) dX0_passage_184 hc (by decide) rfl (by omega) (by decide) ?_
          refine lk_isub dX0_passage_185 ?_
          refine lk_istore (L' := [(0, lk_vr c 0), (1, lk_vi (nI (k))), (2, lk_vi 0), (3, lk_vi (z)), (4, lk_vi (σ c 6 (k))), (5, lk_vi (σ c 6 (k + 1))), (6, lk_vi (σ c 4 (k))), (7, lk_vi (σ c 5 (k))), (8, lk_vi 1), (9, lk_vi ((σ c 6 (k + 1)) - (σd c 6 (k + 1))))]) dX0_passage_186 (by decide +kernel) rfl ?_
          refine lk_aload_n dX0_passage_188 rfl rfl ?_
          refine lk_getO (f := 10) (o' := (c + 1)) dX0_passage_189 hc fX0_40 (by decide) (by decide) (lk_fo1 hc) ?_
          refine lk_iload dX0_passage_192 rfl ?_
          refine lk_callV (o := (c + 1)) (as := [lk_vi ((σ c 6 (k + 1)) - (σd c 6 (k + 1)))]) (S := []) dX0_passage_194 rfl vX5_add rfl lX0_87 (lk_kc1 hc) rfl (Nat.le_of_ble_eq_true rfl) (tX5_add l X (d + 1) σd τ (t := (c + 1)) (s := ((σ c 6 (k + 1)) - (σd c 6 (k + 1)))) (ht := lk_kc1 hc)) ?_
          refine lk_k3 ?_
          refine lk_cast (pc' := 197) (S' := []) rfl rfl rfl ?_
          refine lk_iload dX0_passage_197 rfl ?_
          refine lk_iret .int dX0_passage_199 rfl rfl ?_
          rw [hQ]
          have hp : lk_pas (σ c) k false z = .inl (σd c) := by simp only [lk_pas]; simp [lk_sb, *, -Int32.zero_sub]
          rw [hp]
          refine ⟨rfl, ?_, rfl⟩
          have h1 : σd (c + 1) = σ (c + 1) := by rw [← eσd]; exact lk_so_ne (by omega)
          show lk_so σd (c + 1) _ = lk_so (lk_so σ c (σd c)) (c + 1) _
          rw [h1, eσd]
        ·
          refine lk_callV (o := c) (as := [lk_vi (nI (k)), lk_vi (0 - (z))]) (S := []) dX0_passage_120 rfl vX0_swaps rfl lX0_83 hc rfl (Nat.le_of_ble_eq_true rfl) (tX0_swaps_no l X d σb τ (c := c) (k := (k)) (z := (0 - (z))) (hc := hc) (hk := hk6) (q := q1) (h := hσdf)) ?_
          refine lk_k2 (fun σx hx => ?_)
          have hb := lk_pas_back (eσb).symm nσb hx
          clear hx
          refine lk_cast (pc' := 123) (S' := [lk_vi 0]) rfl rfl rfl ?_
          refine lk_if_eq (tgt := 130) dX0_passage_123 (by decide) (fun h15 => ?_) (fun h15 => absurd h15 (by decide))
          refine lk_iconst (v := 0) dX0_passage_130 (by decide) ?_
          refine lk_istore (L' := [(0, lk_vr c 0), (1, lk_vi (nI (k))), (2, lk_vi 0), (3, lk_vi (z)), (4, lk_vi (σ c 6 (k))), (5, lk_vi (σ c 6 (k + 1))), (6, lk_vi (σ c 4 (k))), (7, lk_vi (σ c 5 (k))), (8, lk_vi 0)]) dX0_passage_131 (by decide +kernel) rfl ?_
          refine lk_iload dX0_passage_133 rfl ?_
          refine lk_if_ne (tgt := 175) dX0_passage_135 (by decide) (fun h16 => absurd h16 (by decide)) (fun h16 => ?_)
          refine lk_aload_n dX0_passage_138 rfl rfl ?_
          refine lk_getR (f := 6) dX0_passage_139 hc fX0_25 (by decide) (by decide) ?_
          refine lk_iload_n dX0_passage_142 rfl rfl ?_
          refine lk_iload dX0_passage_143 rfl ?_
          refine lk_iastN (f := 6) (i := k) (v := (σ c 6 (k))) dX0_passage_145 hc (by decide) rfl (by omega) (by decide) ?_
          refine lk_aload_n dX0_passage_146 rfl rfl ?_
          refine lk_getR (f := 6) dX0_passage_147 hc fX0_25 (by decide) (by decide) ?_
          refine lk_iload_n dX0_passage_150 rfl rfl ?_
          refine lk_iconst (v := 1) dX0_passage_151 (by decide) ?_
          refine lk_iaddN (a := k) (b := 1) dX0_passage_152 ?_
          refine lk_iload dX0_passage_153 rfl ?_
          refine lk_iastN (f := 6) (i := k + 1) (v := (σ c 6 (k + 1))) dX0_passage_155 hc (by decide) rfl (by omega) (by decide) ?_
          refine lk_aload_n dX0_passage_156 rfl rfl ?_
          refine lk_getR (f := 4) dX0_passage_157 hc fX0_18 (by decide) (by decide) ?_
          refine lk_iload_n dX0_passage_160 rfl rfl ?_
          refine lk_iload dX0_passage_161 rfl ?_
          refine lk_iastN (f := 4) (i := k) (v := (σ c 4 (k))) dX0_passage_163 hc (by decide) rfl (by omega) (by decide) ?_
          refine lk_aload_n dX0_passage_164 rfl rfl ?_
          refine lk_getR (f := 5) dX0_passage_165 hc fX0_21 (by decide) (by decide) ?_
          refine lk_iload_n dX0_passage_168 rfl rfl ?_
          refine lk_iload dX0_passage_169 rfl ?_
          refine lk_zastN (f := 5) (i := k) (v := (σ c 5 (k))) dX0_passage_171 hc (by decide) rfl (by omega) (by decide) h01 ?_
          refine lk_ldc dX0_passage_172 kX0_76 ?_
          refine lk_iret .int dX0_passage_174 rfl rfl ?_
          rw [hQ]
          have hp : lk_pas (σ c) k false z = .inr q1 := by clear hb; simp only [lk_pas]; simp [lk_sb, *, -Int32.zero_sub]
          rw [hp]
          exact ⟨rfl, hb, rfl⟩
      ·
        refine lk_callV (o := c) (as := [lk_vi (nI (k))]) (S := []) dX0_passage_110 rfl vX0_empties rfl lX0_77 hc rfl (Nat.le_of_ble_eq_true rfl) (tX0_empties_no l X d σa τ (c := c) (k := (k)) (hc := hc) (hk := hk6) (hp := (by rw [lk_near_3 nσa]; exact lk_lok_p (hV.2.2.2 k hk6))) (q := q1) (h := hσbf)) ?_
        refine lk_k2 (fun σx hx => ?_)
        have hb := lk_pas_back (eσa).symm nσa hx
        clear hx
        refine lk_cast (pc' := 113) (S' := [lk_vi 0]) rfl rfl rfl ?_
        refine lk_if_eq (tgt := 130) dX0_passage_113 (by decide) (fun h17 => ?_) (fun h17 => absurd h17 (by decide))
        refine lk_iconst (v := 0) dX0_passage_130 (by decide) ?_
        refine lk_istore (L' := [(0, lk_vr c 0), (1, lk_vi (nI (k))), (2, lk_vi 0), (3, lk_vi (z)), (4, lk_vi (σ c 6 (k))), (5, lk_vi (σ c 6 (k + 1))), (6, lk_vi (σ c 4 (k))), (7, lk_vi (σ c 5 (k))), (8, lk_vi 0)]) dX0_passage_131 (by decide +kernel) rfl ?_
        refine lk_iload dX0_passage_133 rfl ?_
        refine lk_if_ne (tgt := 175) dX0_passage_135 (by decide) (fun h18 => absurd h18 (by decide)) (fun h18 => ?_)
        refine lk_aload_n dX0_passage_138 rfl rfl ?_
        refine lk_getR (f := 6) dX0_passage_139 hc fX0_25 (by decide) (by decide) ?_
        refine lk_iload_n dX0_passage_142 rfl rfl ?_
        refine lk_iload dX0_passage_143 rfl ?_
        refine lk_iastN (f := 6) (i := k) (v := (σ c 6 (k))) dX0_passage_145 hc (by decide) rfl (by omega) (by decide) ?_
        refine lk_aload_n dX0_passage_146 rfl rfl ?_
        refine lk_getR (f := 6) dX0_passage_147 hc fX0_25 (by decide) (by decide) ?_
        refine lk_iload_n dX0_passage_150 rfl rfl ?_
        refine lk_iconst (v := 1) dX0_passage_151 (by decide) ?_
        refine lk_iaddN (a := k) (b := 1) dX0_passage_152 ?_
        refine lk_iload dX0_passage_153 rfl ?_
        refine lk_iastN (f := 6) (i := k + 1) (v := (σ c 6 (k + 1))) dX0_passage_155 hc (by decide) rfl (by omega) (by decide) ?_
        refine lk_aload_n dX0_passage_156 rfl rfl ?_
        refine lk_getR (f := 4) dX0_passage_157 hc fX0_18 (by decide) (by decide) ?_
        refine lk_iload_n dX0_passage_160 rfl rfl ?_
        refine lk_iload dX0_passage_161 rfl ?_
        refine lk_iastN (f := 4) (i := k) (v := (σ c 4 (k))) dX0_passage_163 hc (by decide) rfl (by omega) (by decide) ?_
        refine lk_aload_n dX0_passage_164 rfl rfl ?_
        refine lk_getR (f := 5) dX0_passage_165 hc fX0_21 (by decide) (by decide) ?_
        refine lk_iload_n dX0_passage_168 rfl rfl ?_
        refine lk_iload dX0_passage_169 rfl ?_
        refine lk_zastN (f := 5) (i := k) (v := (σ c 5 (k))) dX0_passage_171 hc (by decide) rfl (by omega) (by decide) h01 ?_
        refine lk_ldc dX0_passage_172 kX0_76 ?_
        refine lk_iret .int dX0_passage_174 rfl rfl ?_
        rw [hQ]
        have hp : lk_pas (σ c) k false z = .inr q1 := by clear hb; simp only [lk_pas]; simp [lk_sb, *, -Int32.zero_sub]
        rw [hp]
        exact ⟨rfl, hb, rfl⟩
    ·
      refine lk_callV (o := c) (as := [lk_vi (nI (k))]) (S := []) dX0_passage_102 rfl vX0_fills rfl lX0_80 hc rfl (Nat.le_of_ble_eq_true rfl) (tX0_fills_no l X d σ τ (c := c) (k := (k)) (hc := hc) (hk := hk6) (q := q1) (h := hσaf)) ?_
      refine lk_k2 (fun σx hx => ?_)
      have hb := lk_pas_back (lk_so_self σ c).symm (lk_near_rf _ _) hx
      clear hx
      refine lk_cast (pc' := 105) (S' := [lk_vi 0]) rfl rfl rfl ?_
      refine lk_if_eq (tgt := 130) dX0_passage_105 (by decide) (fun h19 => ?_) (fun h19 => absurd h19 (by decide))
      refine lk_iconst (v := 0) dX0_passage_130 (by decide) ?_
      refine lk_istore (L' := [(0, lk_vr c 0), (1, lk_vi (nI (k))), (2, lk_vi 0), (3, lk_vi (z)), (4, lk_vi (σ c 6 (k))), (5, lk_vi (σ c 6 (k + 1))), (6, lk_vi (σ c 4 (k))), (7, lk_vi (σ c 5 (k))), (8, lk_vi 0)]) dX0_passage_131 (by decide +kernel) rfl ?_
      refine lk_iload dX0_passage_133 rfl ?_
      refine lk_if_ne (tgt := 175) dX0_passage_135 (by decide) (fun h20 => absurd h20 (by decide)) (fun h20 => ?_)
      refine lk_aload_n dX0_passage_138 rfl rfl ?_
      refine lk_getR (f := 6) dX0_passage_139 hc fX0_25 (by decide) (by decide) ?_
      refine lk_iload_n dX0_passage_142 rfl rfl ?_
      refine lk_iload dX0_passage_143 rfl ?_
      refine lk_iastN (f := 6) (i := k) (v := (σ c 6 (k))) dX0_passage_145 hc (by decide) rfl (by omega) (by decide) ?_
      refine lk_aload_n dX0_passage_146 rfl rfl ?_
      refine lk_getR (f := 6) dX0_passage_147 hc fX0_25 (by decide) (by decide) ?_
      refine lk_iload_n dX0_passage_150 rfl rfl ?_
      refine lk_iconst (v := 1) dX0_passage_151 (by decide) ?_
      refine lk_iaddN (a := k) (b := 1) dX0_passage_152 ?_
      refine lk_iload dX0_passage_153 rfl ?_
      refine lk_iastN (f := 6) (i := k + 1) (v := (σ c 6 (k + 1))) dX0_passage_155 hc (by decide) rfl (by omega) (by decide) ?_
      refine lk_aload_n dX0_passage_156 rfl rfl ?_
      refine lk_getR (f := 4) dX0_passage_157 hc fX0_18 (by decide) (by decide) ?_
      refine lk_iload_n dX0_passage_160 rfl rfl ?_
      refine lk_iload dX0_passage_161 rfl ?_
      refine lk_iastN (f := 4) (i := k) (v := (σ c 4 (k))) dX0_passage_163 hc (by decide) rfl (by omega) (by decide) ?_
      refine lk_aload_n dX0_passage_164 rfl rfl ?_
      refine lk_getR (f := 5) dX0_passage_165 hc fX0_21 (by decide) (by decide) ?_
      refine lk_iload_n dX0_passage_168 rfl rfl ?_
      refine lk_iload dX0_passage_169 rfl ?_
      refine lk_zastN (f := 5) (i := k) (v := (σ c 5 (k))) dX0_passage_171 hc (by decide) rfl (by omega) (by decide) h01 ?_
      refine lk_ldc dX0_passage_172 kX0_76 ?_
      refine lk_iret .int dX0_passage_174 rfl rfl ?_
      rw [hQ]
      have hp : lk_pas (σ c) k false z = .inr q1 := by clear hb; simp only [lk_pas]; simp [lk_sb, *, -Int32.zero_sub]
      rw [hp]
      exact ⟨rfl, hb, rfl⟩
