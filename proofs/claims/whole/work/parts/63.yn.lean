theorem lk_sft_P (R : Nat → Int32) (b : Nat) (P : Nat → Prop) (hb : P b) : ∀ (p : Nat) (q : Nat → Nat) (c : Nat), p ≤ c → (∀ i, i < c + 1 → i ≠ p → P (q i)) → ∀ i, i < c + 1 → P (lk_sft R b p q i)
  | 0, q, c, _, h, i, hi => by
    simp only [lk_sft, va_up]
    split
    · exact hb
    · rename_i e; exact h i hi e
  | p + 1, q, c, hp, h, i, hi => by
    simp only [lk_sft]
    split
    · refine lk_sft_P R b P hb p _ c (by omega) (fun j hj hne => ?_) i hi
      simp only [va_up]
      split
      · exact h p (by omega) (by omega)
      · rename_i e; exact h j hj e
    · simp only [va_up]
      split
      · exact hb
      · rename_i e; exact h i hi e
theorem lk_gat_p (B : lk_O) (r u : Int32) : ∀ m i, i < (lk_gat B r u m).1 → B 4 ((lk_gat B r u m).2 i) = r ∧ B 3 ((lk_gat B r u m).2 i) = u
  | 0, i, h => absurd h (Nat.not_lt_zero i)
  | m + 1, i, h => by
    have ih := lk_gat_p B r u m
    unfold lk_gat at h ⊢
    split
    · rename_i e
      rw [if_pos e] at h
      exact lk_sft_P (B 2) m (fun b => B 4 b = r ∧ B 3 b = u) e _ _ _ (Nat.le_refl _) (fun j hj hne => ih j (by omega)) i h
    · rename_i e
      rw [if_neg e] at h
      exact ih i h
theorem lk_sft_i (R : Nat → Int32) (b : Nat) : ∀ (p : Nat) (q : Nat → Nat) (c : Nat), p ≤ c → (∀ i, i < c + 1 → i ≠ p → q i ≠ b) → (∀ i j, i < c + 1 → j < c + 1 → i ≠ p → j ≠ p → q i = q j → i = j) → ∀ i j, i < c + 1 → j < c + 1 → lk_sft R b p q i = lk_sft R b p q j → i = j
  | 0, q, c, _, h, g, i, j, hi, hj, e => by
    simp only [lk_sft, va_up] at e
    by_cases h1 : i = 0 <;> by_cases h2 : j = 0
    · omega
    · rw [if_pos h1, if_neg h2] at e; exact absurd e.symm (h j hj h2)
    · rw [if_neg h1, if_pos h2] at e; exact absurd e (h i hi h1)
    · rw [if_neg h1, if_neg h2] at e; exact g i j hi hj h1 h2 e
  | p + 1, q, c, hp, h, g, i, j, hi, hj, e => by
    simp only [lk_sft] at e
    split at e
    · refine lk_sft_i R b p _ c (by omega) (fun a ha hne => ?_) (fun a d ha hd hne hde hq => ?_) i j hi hj e
      · simp only [va_up]
        split
        · exact h p (by omega) (by omega)
        · rename_i e2; exact h a ha e2
      · simp only [va_up] at hq
        by_cases h1 : a = p + 1 <;> by_cases h2 : d = p + 1
        · omega
        · rw [if_pos h1, if_neg h2] at hq
          exact absurd (g p d (by omega) hd (by omega) h2 hq) (fun z => hde z.symm)
        · rw [if_neg h1, if_pos h2] at hq
          exact absurd (g a p ha (by omega) h1 (by omega) hq) hne
        · rw [if_neg h1, if_neg h2] at hq; exact g a d ha hd h1 h2 hq
    · simp only [va_up] at e
      by_cases h1 : i = p + 1 <;> by_cases h2 : j = p + 1
      · omega
      · rw [if_pos h1, if_neg h2] at e; exact absurd e.symm (h j hj h2)
      · rw [if_neg h1, if_pos h2] at e; exact absurd e (h i hi h1)
      · rw [if_neg h1, if_neg h2] at e; exact g i j hi hj h1 h2 e
theorem lk_gat_i (B : lk_O) (r u : Int32) : ∀ m i j, i < (lk_gat B r u m).1 → j < (lk_gat B r u m).1 → (lk_gat B r u m).2 i = (lk_gat B r u m).2 j → i = j
  | 0, i, _, h, _, _ => absurd h (Nat.not_lt_zero i)
  | m + 1, i, j, hi, hj, e => by
    have ih := lk_gat_i B r u m
    have hl := lk_gat_lt B r u m
    unfold lk_gat at hi hj e
    split at e
    · rename_i c
      rw [if_pos c] at hi hj
      exact lk_sft_i (B 2) m _ _ _ (Nat.le_refl _) (fun a ha hne z => by have := hl a (by omega); omega) (fun a d ha hd h1 h2 hq => ih a d (by omega) (by omega) hq) i j hi hj e
    · rename_i c
      rw [if_neg c] at hi hj
      exact ih i j hi hj e
theorem lk_par {n : Nat} (h : n < 1000) : nI n - nI n / 2 * 2 = nI (n % 2) := (by decide +kernel : ∀ n, n < 1000 → nI n - nI n / 2 * 2 = nI (n % 2)) n h
theorem lk_frbm_t {R : Nat → Int32} {qb qa : Nat → Nat} {nb na i j : Nat} {fu : Int32} {ru : Nat} (h : lk_frb R qb qa nb na i j fu ru = true) (h2 : i < nb ∨ j < na) (hi : i ≤ nb) : i < nb := by
  unfold lk_frb at h
  split at h
  · exact of_decide_eq_true h
  · omega
theorem lk_frbm_f {R : Nat → Int32} {qb qa : Nat → Nat} {nb na i j : Nat} {fu : Int32} {ru : Nat} (h : lk_frb R qb qa nb na i j fu ru = false) (h2 : i < nb ∨ j < na) : j < na := by
  unfold lk_frb at h
  split at h
  · have := of_decide_eq_false h; omega
  · omega
theorem lk_frbm_0 {R : Nat → Int32} {qb qa : Nat → Nat} {nb na i j : Nat} {fu : Int32} (h1 : i < nb) (h2 : j < na) : lk_frb R qb qa nb na i j fu 0 = decide (i ≤ j) := by
  unfold lk_frb; rw [if_neg (by omega)]; rfl
set_option maxHeartbeats 1000000 in
set_option maxRecDepth 100000 in
theorem tX9_isFromBelow (l : Launch) (X : lk_G) (d : Nat) (σ : lk_N) (τ : lk_T) (V T : lk_O) (g h : Nat × (Nat → Nat)) (hq : lk_lq σ g h) (R : Nat → Int32) (nf k ru i j : Nat) (hn12 : nf ≤ 12) (hk : k < 6) (hru : ru ≤ 3) (hi : i ≤ g.1) (hj : j ≤ h.1) (hg : ∀ a, a < g.1 → g.2 a < nf) (hh : ∀ a, a < h.1 → h.2 a < nf) (hg12 : g.1 ≤ 12) (hh12 : h.1 ≤ 12) (hK : ∀ b, b < nf → σ 1 0 (78 + b) = R b) (h5 : V 5 k = 0 ∨ V 5 k = 1) (hal : ru = 0 → i < g.1 → j < h.1 → i = j ∨ i = j + 1) : lk_Mt l X mX9_isFromBelow d [lk_vr 1 0, lk_vi (nI (k)), lk_vi (nI (ru)), lk_vi (nI (i)), lk_vi (nI (j))] (lk_ms σ V T) τ (fun rr σ1 τ1 => rr = some (lk_vi (if lk_frb R g.2 h.2 g.1 h.1 i j (V 5 k) ru = true then 1 else 0)) ∧ σ1 = (lk_ms σ V T) ∧ τ1 = τ) := by
  refine lk_met (L := [(0, lk_vr 1 0), (1, lk_vi (nI (k))), (2, lk_vi (nI (ru))), (3, lk_vi (nI (i))), (4, lk_vi (nI (j)))]) (by decide +kernel) (Nat.le_of_ble_eq_true rfl) rfl ?_
  obtain ⟨Q, hQ⟩ : ∃ Q : lk_Q, Q = fun rr σ1 τ1 => rr = some (lk_vi (if lk_frb R g.2 h.2 g.1 h.1 i j (V 5 k) ru = true then 1 else 0)) ∧ σ1 = (lk_ms σ V T) ∧ τ1 = τ := ⟨_, rfl⟩
  rw [← hQ]
  refine lk_iload_n dX9_isFromBelow_0 rfl rfl ?_
  refine lk_aload_n dX9_isFromBelow_1 rfl rfl ?_
  refine lk_getIv (v := (nI (g.1))) (f := 18) dX9_isFromBelow_2 rfl fX9_168 (by decide) (by decide) ((lk_rf (by decide)).trans hq.1) ?_
  refine lk_icmp_eqN (a := i) (b := g.1) (tgt := 17) dX9_isFromBelow_5 (by decide) (by omega) (by omega) (fun hh1 => ?_) (fun hh1 => ?_)
  ·
    refine lk_iload_n dX9_isFromBelow_17 rfl rfl ?_
    refine lk_aload_n dX9_isFromBelow_18 rfl rfl ?_
    refine lk_getIv (v := (nI (g.1))) (f := 18) dX9_isFromBelow_19 rfl fX9_168 (by decide) (by decide) ((lk_rf (by decide)).trans hq.1) ?_
    refine lk_icmp_geN (a := i) (b := g.1) (tgt := 29) dX9_isFromBelow_22 (by decide) (by omega) (by omega) (fun hh2 => ?_) (fun hh2 => ?_)
    ·
      refine lk_iconst (v := 0) dX9_isFromBelow_29 (by decide) ?_
      refine lk_iret .boolean dX9_isFromBelow_30 rfl rfl ?_
      rw [hQ]
      refine ⟨?_, rfl, rfl⟩
      have hz : lk_frb R g.2 h.2 g.1 h.1 i j (V 5 k) ru = decide (i < g.1) := by unfold lk_frb; rw [if_pos (by omega)]
      rw [hz, if_neg (by simp; omega)]
    ·
      refine lk_iconst (v := 1) dX9_isFromBelow_25 (by decide) ?_
      refine lk_goto (tgt := 30) dX9_isFromBelow_26 (by decide) ?_
      refine lk_iret .boolean dX9_isFromBelow_30 rfl rfl ?_
      rw [hQ]
      refine ⟨?_, rfl, rfl⟩
      have hz : lk_frb R g.2 h.2 g.1 h.1 i j (V 5 k) ru = decide (i < g.1) := by unfold lk_frb; rw [if_pos (by omega)]
      rw [hz, if_pos (decide_eq_true (by omega))]
  ·
    refine lk_iload dX9_isFromBelow_8 rfl ?_
    refine lk_aload_n dX9_isFromBelow_10 rfl rfl ?_
    refine lk_getIv (v := (nI (h.1))) (f := 19) dX9_isFromBelow_11 rfl fX9_171 (by decide) (by decide) ((lk_rf (by decide)).trans hq.2.1) ?_
    refine lk_icmp_neN (a := j) (b := h.1) (tgt := 31) dX9_isFromBelow_14 (by decide) (by omega) (by omega) (fun hh3 => ?_) (fun hh3 => ?_)
    ·
      refine lk_iload_n dX9_isFromBelow_31 rfl rfl ?_
      rcases (show ru = 0 ∨ ru = 1 ∨ ru = 2 ∨ (2 < ru) by omega) with rfl | rfl | rfl | hh4
      ·
        refine lk_tableIn (off := 28) (tgt := 60) dX9_isFromBelow_32 (by decide) (by decide) rfl (by decide) ?_
        refine lk_iload_n dX9_isFromBelow_60 rfl rfl ?_
        refine lk_iload dX9_isFromBelow_61 rfl ?_
        refine lk_iaddN (a := i) (b := j) dX9_isFromBelow_63 ?_
        refine lk_iconst (v := 2) dX9_isFromBelow_64 (by decide) ?_
        refine lk_irem dX9_isFromBelow_65 (by decide) ?_
        refine lk_if_ne (tgt := 73) dX9_isFromBelow_66 (by decide) (fun hh5 => ?_) (fun hh5 => ?_)
        ·
          refine lk_iconst (v := 0) dX9_isFromBelow_73 (by decide) ?_
          refine lk_iret .boolean dX9_isFromBelow_74 rfl rfl ?_
          rw [hQ]
          refine ⟨?_, rfl, rfl⟩
          have hz : lk_frb R g.2 h.2 g.1 h.1 i j (V 5 k) 0 = decide (i ≤ j) := lk_frbm_0 (by omega) (by omega)
          have hp := lk_par (n := i + j) (by omega)
          have ha := hal rfl (by omega) (by omega)
          have h0 : (i + j) % 2 = 1 := by
            have q : ¬ nI ((i + j) % 2) = 0 := by rw [← hp]; assumption
            rcases (show (i + j) % 2 = 0 ∨ (i + j) % 2 = 1 by omega) with e | e
            · rw [e] at q; exact absurd rfl q
            · exact e
          rw [hz, if_neg (by simp; omega)]
        ·
          refine lk_iconst (v := 1) dX9_isFromBelow_69 (by decide) ?_
          refine lk_goto (tgt := 74) dX9_isFromBelow_70 (by decide) ?_
          refine lk_iret .boolean dX9_isFromBelow_74 rfl rfl ?_
          rw [hQ]
          refine ⟨?_, rfl, rfl⟩
          have hz : lk_frb R g.2 h.2 g.1 h.1 i j (V 5 k) 0 = decide (i ≤ j) := lk_frbm_0 (by omega) (by omega)
          have hp := lk_par (n := i + j) (by omega)
          have ha := hal rfl (by omega) (by omega)
          have h0 : (i + j) % 2 = 0 := by
            have q : nI ((i + j) % 2) = 0 := by rw [← hp]; first | assumption | exact Decidable.not_not.mp (by assumption)
            rcases (show (i + j) % 2 = 0 ∨ (i + j) % 2 = 1 by omega) with e | e
            · exact e
            · rw [e] at q; exact absurd q (by decide)
          rw [hz, if_pos (decide_eq_true (by omega))]
      ·
        refine lk_tableIn (off := 43) (tgt := 75) dX9_isFromBelow_32 (by decide) (by decide) rfl (by decide) ?_
        have hgi := hg i (by omega)
        have hhj := hh j (by omega)
        refine lk_aload_n dX9_isFromBelow_75 rfl rfl ?_
        refine lk_getR (f := 20) dX9_isFromBelow_76 rfl fX9_30 (by decide) (by decide) ?_
        refine lk_iload_n dX9_isFromBelow_79 rfl rfl ?_
        refine lk_ialdN (f := 20) (i := i) dX9_isFromBelow_80 rfl (by decide) rfl (by omega) (by decide) ?_
        refine lk_eqtop (y := (nI (g.2 i))) ((lk_rf (by decide)).trans (hq.2.2.1 i (by omega))) ?_
        refine lk_istore (L' := [(0, lk_vr 1 0), (1, lk_vi (nI (k))), (2, lk_vi 1), (3, lk_vi (nI (i))), (4, lk_vi (nI (j))), (5, lk_vi (nI (g.2 i)))]) dX9_isFromBelow_81 (by decide +kernel) rfl ?_
        refine lk_aload_n dX9_isFromBelow_83 rfl rfl ?_
        refine lk_getR (f := 21) dX9_isFromBelow_84 rfl fX9_33 (by decide) (by decide) ?_
        refine lk_iload dX9_isFromBelow_87 rfl ?_
        refine lk_ialdN (f := 21) (i := j) dX9_isFromBelow_89 rfl (by decide) rfl (by omega) (by decide) ?_
        refine lk_eqtop (y := (nI (h.2 j))) ((lk_rf (by decide)).trans (hq.2.2.2 j (by omega))) ?_
        refine lk_istore (L' := [(0, lk_vr 1 0), (1, lk_vi (nI (k))), (2, lk_vi 1), (3, lk_vi (nI (i))), (4, lk_vi (nI (j))), (5, lk_vi (nI (g.2 i))), (6, lk_vi (nI (h.2 j)))]) dX9_isFromBelow_90 (by decide +kernel) rfl ?_
        refine lk_aload_n dX9_isFromBelow_92 rfl rfl ?_
        refine lk_getR (f := 0) dX9_isFromBelow_93 rfl fX9_9 (by decide) (by decide) ?_
        refine lk_bipush (v := 78) dX9_isFromBelow_96 (by decide) ?_
        refine lk_iload dX9_isFromBelow_98 rfl ?_
        refine lk_iaddN (a := 78) (b := g.2 i) dX9_isFromBelow_100 ?_
        refine lk_ialdN (f := 0) (i := 78 + g.2 i) dX9_isFromBelow_101 rfl (by decide) rfl (by omega) (by decide) ?_
        refine lk_eqtop (y := (R (g.2 i))) ((lk_rB (by omega)).trans (hK (g.2 i) (hg i (by omega)))) ?_
        refine lk_aload_n dX9_isFromBelow_102 rfl rfl ?_
        refine lk_getR (f := 0) dX9_isFromBelow_103 rfl fX9_9 (by decide) (by decide) ?_
        refine lk_bipush (v := 78) dX9_isFromBelow_106 (by decide) ?_
        refine lk_iload dX9_isFromBelow_108 rfl ?_
        refine lk_iaddN (a := 78) (b := h.2 j) dX9_isFromBelow_110 ?_
        refine lk_ialdN (f := 0) (i := 78 + h.2 j) dX9_isFromBelow_111 rfl (by decide) rfl (by omega) (by decide) ?_
        refine lk_eqtop (y := (R (h.2 j))) ((lk_rB (by omega)).trans (hK (h.2 j) (hh j (by omega)))) ?_
        refine lk_icmp_eq (tgt := 146) dX9_isFromBelow_112 (by decide) (fun hh6 => ?_) (fun hh6 => ?_)
        ·
          refine lk_iload dX9_isFromBelow_146 rfl ?_
          refine lk_iload dX9_isFromBelow_148 rfl ?_
          refine lk_icmp_geN (a := g.2 i) (b := h.2 j) (tgt := 157) dX9_isFromBelow_150 (by decide) (by omega) (by omega) (fun hh7 => ?_) (fun hh7 => ?_)
          ·
            refine lk_iconst (v := 0) dX9_isFromBelow_157 (by decide) ?_
            refine lk_iret .boolean dX9_isFromBelow_158 rfl rfl ?_
            rw [hQ]
            refine ⟨?_, rfl, rfl⟩
            have hz : lk_frb R g.2 h.2 g.1 h.1 i j (V 5 k) 1 = lk_ahd R (g.2 i) (h.2 j) := by unfold lk_frb; rw [if_neg (by omega)]; rfl
            rw [hz, if_neg (lk_ahd_f (by
              rintro (z | ⟨z, z2⟩)
              · first | exact absurd z (Int32.not_lt.mpr (by assumption)) | (rw [show R (g.2 i) = R (h.2 j) by assumption] at z; exact Int32.lt_irrefl z)
              · first | omega | contradiction))]
          ·
            refine lk_iconst (v := 1) dX9_isFromBelow_153 (by decide) ?_
            refine lk_goto (tgt := 158) dX9_isFromBelow_154 (by decide) ?_
            refine lk_iret .boolean dX9_isFromBelow_158 rfl rfl ?_
            rw [hQ]
            refine ⟨?_, rfl, rfl⟩
            have hz : lk_frb R g.2 h.2 g.1 h.1 i j (V 5 k) 1 = lk_ahd R (g.2 i) (h.2 j) := by unfold lk_frb; rw [if_neg (by omega)]; rfl
            rw [hz, if_pos (lk_ahd_t (by first | exact Or.inl (Int32.not_le.mp (by assumption)) | exact Or.inr ⟨by assumption, by omega⟩))]
        ·
          refine lk_aload_n dX9_isFromBelow_115 rfl rfl ?_
          refine lk_getR (f := 0) dX9_isFromBelow_116 rfl fX9_9 (by decide) (by decide) ?_
          refine lk_bipush (v := 78) dX9_isFromBelow_119 (by decide) ?_
          refine lk_iload dX9_isFromBelow_121 rfl ?_
          refine lk_iaddN (a := 78) (b := g.2 i) dX9_isFromBelow_123 ?_
          refine lk_ialdN (f := 0) (i := 78 + g.2 i) dX9_isFromBelow_124 rfl (by decide) rfl (by omega) (by decide) ?_
          refine lk_eqtop (y := (R (g.2 i))) ((lk_rB (by omega)).trans (hK (g.2 i) (hg i (by omega)))) ?_
          refine lk_aload_n dX9_isFromBelow_125 rfl rfl ?_
          refine lk_getR (f := 0) dX9_isFromBelow_126 rfl fX9_9 (by decide) (by decide) ?_
          refine lk_bipush (v := 78) dX9_isFromBelow_129 (by decide) ?_
          refine lk_iload dX9_isFromBelow_131 rfl ?_
          refine lk_iaddN (a := 78) (b := h.2 j) dX9_isFromBelow_133 ?_
          refine lk_ialdN (f := 0) (i := 78 + h.2 j) dX9_isFromBelow_134 rfl (by decide) rfl (by omega) (by decide) ?_
          refine lk_eqtop (y := (R (h.2 j))) ((lk_rB (by omega)).trans (hK (h.2 j) (hh j (by omega)))) ?_
          refine lk_icmp_le (tgt := 142) dX9_isFromBelow_135 (by decide) (fun hh8 => ?_) (fun hh8 => ?_)
          ·
            refine lk_iconst (v := 0) dX9_isFromBelow_142 (by decide) ?_
            refine lk_goto (tgt := 158) dX9_isFromBelow_143 (by decide) ?_
            refine lk_iret .boolean dX9_isFromBelow_158 rfl rfl ?_
            rw [hQ]
            refine ⟨?_, rfl, rfl⟩
            have hz : lk_frb R g.2 h.2 g.1 h.1 i j (V 5 k) 1 = lk_ahd R (g.2 i) (h.2 j) := by unfold lk_frb; rw [if_neg (by omega)]; rfl
            rw [hz, if_neg (lk_ahd_f (by
              rintro (z | ⟨z, z2⟩)
              · first | exact absurd z (Int32.not_lt.mpr (by assumption)) | (rw [show R (g.2 i) = R (h.2 j) by assumption] at z; exact Int32.lt_irrefl z)
              · first | omega | contradiction))]
          ·
            refine lk_iconst (v := 1) dX9_isFromBelow_138 (by decide) ?_
            refine lk_goto (tgt := 158) dX9_isFromBelow_139 (by decide) ?_
            refine lk_iret .boolean dX9_isFromBelow_158 rfl rfl ?_
            rw [hQ]
            refine ⟨?_, rfl, rfl⟩
            have hz : lk_frb R g.2 h.2 g.1 h.1 i j (V 5 k) 1 = lk_ahd R (g.2 i) (h.2 j) := by unfold lk_frb; rw [if_neg (by omega)]; rfl
            rw [hz, if_pos (lk_ahd_t (by first | exact Or.inl (Int32.not_le.mp (by assumption)) | exact Or.inr ⟨by assumption, by omega⟩))]
      ·
        refine lk_tableIn (off := 127) (tgt := 159) dX9_isFromBelow_32 (by decide) (by decide) rfl (by decide) ?_
        refine lk_iconst (v := 1) dX9_isFromBelow_159 (by decide) ?_
        refine lk_iret .boolean dX9_isFromBelow_160 rfl rfl ?_
        rw [hQ]
        refine ⟨?_, rfl, rfl⟩
        have hz : lk_frb R g.2 h.2 g.1 h.1 i j (V 5 k) 2 = true := by unfold lk_frb; rw [if_neg (by omega)]; rfl
        rw [hz]; rfl
      ·
        refine lk_tableOut (tgt := 161) dX9_isFromBelow_32 (by rw [nI_toInt (by omega)]; omega) (by decide) ?_
        refine lk_aload_n dX9_isFromBelow_161 rfl rfl ?_
        refine lk_getR (f := 0) dX9_isFromBelow_162 rfl fX9_9 (by decide) (by decide) ?_
        refine lk_bipush (v := 18) dX9_isFromBelow_165 (by decide) ?_
        refine lk_iload_n dX9_isFromBelow_167 rfl rfl ?_
        refine lk_iaddN (a := 18) (b := k) dX9_isFromBelow_168 ?_
        refine lk_ialdN (f := 0) (i := 18 + k) dX9_isFromBelow_169 rfl (by decide) rfl (by omega) (by decide) ?_
        refine lk_eqtop (y := (V 5 (k))) (lk_r5 (by omega) (by omega)) ?_
        refine lk_if_ne (tgt := 177) dX9_isFromBelow_170 (by decide) (fun hh9 => ?_) (fun hh9 => ?_)
        ·
          refine lk_iconst (v := 0) dX9_isFromBelow_177 (by decide) ?_
          refine lk_iret .boolean dX9_isFromBelow_178 rfl rfl ?_
          rw [hQ]
          have hr3 : ru = 3 := by omega
          subst hr3
          refine ⟨?_, rfl, rfl⟩
          have hz : lk_frb R g.2 h.2 g.1 h.1 i j (V 5 k) 3 = decide (V 5 k = 0) := by unfold lk_frb; rw [if_neg (by omega)]; rfl
          rw [hz, if_neg (by simp; assumption)]
        ·
          refine lk_iconst (v := 1) dX9_isFromBelow_173 (by decide) ?_
          refine lk_goto (tgt := 178) dX9_isFromBelow_174 (by decide) ?_
          refine lk_iret .boolean dX9_isFromBelow_178 rfl rfl ?_
          rw [hQ]
          have hr3 : ru = 3 := by omega
          subst hr3
          refine ⟨?_, rfl, rfl⟩
          have hz : lk_frb R g.2 h.2 g.1 h.1 i j (V 5 k) 3 = decide (V 5 k = 0) := by unfold lk_frb; rw [if_neg (by omega)]; rfl
          rw [hz, if_pos (decide_eq_true (by first | assumption | exact Decidable.not_not.mp (by assumption)))]
    ·
      refine lk_iload_n dX9_isFromBelow_17 rfl rfl ?_
      refine lk_aload_n dX9_isFromBelow_18 rfl rfl ?_
      refine lk_getIv (v := (nI (g.1))) (f := 18) dX9_isFromBelow_19 rfl fX9_168 (by decide) (by decide) ((lk_rf (by decide)).trans hq.1) ?_
      refine lk_icmp_geN (a := i) (b := g.1) (tgt := 29) dX9_isFromBelow_22 (by decide) (by omega) (by omega) (fun hh10 => ?_) (fun hh10 => ?_)
      ·
        refine lk_iconst (v := 0) dX9_isFromBelow_29 (by decide) ?_
        refine lk_iret .boolean dX9_isFromBelow_30 rfl rfl ?_
        rw [hQ]
        refine ⟨?_, rfl, rfl⟩
        have hz : lk_frb R g.2 h.2 g.1 h.1 i j (V 5 k) ru = decide (i < g.1) := by unfold lk_frb; rw [if_pos (by omega)]
        rw [hz, if_neg (by simp; omega)]
      ·
        refine lk_iconst (v := 1) dX9_isFromBelow_25 (by decide) ?_
        refine lk_goto (tgt := 30) dX9_isFromBelow_26 (by decide) ?_
        refine lk_iret .boolean dX9_isFromBelow_30 rfl rfl ?_
        rw [hQ]
        refine ⟨?_, rfl, rfl⟩
        have hz : lk_frb R g.2 h.2 g.1 h.1 i j (V 5 k) ru = decide (i < g.1) := by unfold lk_frb; rw [if_pos (by omega)]
        rw [hz, if_pos (decide_eq_true (by omega))]
