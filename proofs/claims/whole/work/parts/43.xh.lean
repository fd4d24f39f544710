theorem lk_cmp0 {x y : Int64} : lg_cmp x y = 0 ↔ x = y := by
  unfold lg_cmp
  by_cases h : x > y
  · rw [if_pos h]
    constructor
    · intro q; cases q
    · intro q; subst q; exact (Int64.lt_irrefl h).elim
  · rw [if_neg h]
    by_cases e : x = y
    · rw [if_pos e]; simp [e]
    · rw [if_neg e]
      constructor
      · intro q; cases q
      · intro q; exact absurd q e
theorem lk_cmpg {x y : Int64} : 0 ≤ lg_cmp x y ↔ ¬ x < y := by
  unfold lg_cmp
  by_cases h : x > y
  · rw [if_pos h]
    exact ⟨fun _ q => (Int64.lt_irrefl (Int64.lt_trans h q)).elim, fun _ => by decide⟩
  · rw [if_neg h]
    by_cases e : x = y
    · rw [if_pos e]; subst e; exact ⟨fun _ => fun q => (Int64.lt_irrefl q).elim, fun _ => by decide⟩
    · rw [if_neg e]
      refine ⟨fun q => absurd q (by decide), fun q => absurd (Int64.le_antisymm (Int64.not_lt.mp h) (Int64.not_lt.mp q)) e⟩
/-- n times v more would be no long -/
def lk_pbad (a n v : Int64) : Bool := (if n = -1 then decide (v = -9223372036854775808) else decide (¬ n = 0) && decide (¬ n * v / n = v)) || decide ((a ^^^ (a + n * v)) &&& ((n * v) ^^^ (a + n * v)) < 0)
theorem lk_rdn_c {P P' : lk_O} (h : P 0 = P' 0) (n : Nat) : ∀ (m a : Nat) (v : Int32), lk_rdn P n m a v = lk_rdn P' n m a v
  | 0, _, _ => rfl
  | m + 1, a, v => by
    have hc : lk_cur P n a = lk_cur P' n a := by unfold lk_cur; rw [h]
    unfold lk_rdn
    rw [hc]
    split
    · exact lk_rdn_c h n m _ _
    · exact lk_rdn_c h n m _ _
theorem lk_rdn_le (P : lk_O) {n : Nat} (hn : n ≤ 60) : ∀ (m a : Nat) (v : Int32), a ≤ n → (lk_rdn P n m a v).2 ≤ n
  | 0, a, v, h => h
  | m + 1, a, v, h => by
    unfold lk_rdn
    split
    · rename_i hc
      refine lk_rdn_le P hn m _ _ ?_
      rcases Nat.lt_or_ge a n with q | q
      · exact q
      · exfalso
        have : lk_cur P n a = -1 := by unfold lk_cur; rw [if_neg (by omega)]
        rw [this] at hc
        exact absurd hc.1 (by decide)
    · exact lk_rdn_le P hn m a _ h
set_option maxHeartbeats 1000000 in
set_option maxRecDepth 100000 in
theorem tX8_pays_over (l : Launch) (X : lk_G) (d : Nat) (σ : lk_N) (τ : lk_T) (n v : Int64) (h : lk_pbad (τ 0 3) n v = true) : lk_Mt l X mX8_pays d [lk_vr 0 0, lk_vl (n), lk_vl (v)] σ τ (fun rr σ1 τ1 => rr = some (lk_vi (-7)) ∧ σ1 = σ ∧ τ1 = τ) := by
  refine lk_met (L := [(0, lk_vr 0 0), (1, lk_vl (n)), (3, lk_vl (v))]) (by decide +kernel) (Nat.le_of_ble_eq_true rfl) rfl ?_
  obtain ⟨Q, hQ⟩ : ∃ Q : lk_Q, Q = fun rr σ1 τ1 => rr = some (lk_vi (-7)) ∧ σ1 = σ ∧ τ1 = τ := ⟨_, rfl⟩
  rw [← hQ]
  refine lk_lload_n dX8_pays_0 rfl rfl ?_
  refine lk_lload_n dX8_pays_1 rfl rfl ?_
  refine lk_lmul dX8_pays_2 ?_
  refine lk_lstore (L' := [(0, lk_vr 0 0), (1, lk_vl (n)), (3, lk_vl (v)), (5, lk_vl ((n) * (v)))]) dX8_pays_3 (by decide +kernel) rfl ?_
  refine lk_lload_n dX8_pays_5 rfl rfl ?_
  refine lk_ldc2 dX8_pays_6 kX8_343 ?_
  refine lk_lcmp dX8_pays_9 ?_
  refine lk_if_ne (tgt := 29) dX8_pays_10 (by decide) (fun hh1 => ?_) (fun hh1 => ?_)
  ·
    refine lk_lload_n dX8_pays_29 rfl rfl ?_
    refine lk_lconst (v := 0) dX8_pays_30 rfl ?_
    refine lk_lcmp dX8_pays_31 ?_
    refine lk_if_eq (tgt := 48) dX8_pays_32 (by decide) (fun hh2 => ?_) (fun hh2 => ?_)
    ·
      refine lk_iconst (v := 0) dX8_pays_48 (by decide) ?_
      refine lk_istore (L' := [(0, lk_vr 0 0), (1, lk_vl (n)), (3, lk_vl (v)), (5, lk_vl ((n) * (v))), (7, lk_vi 0)]) dX8_pays_49 (by decide +kernel) rfl ?_
      refine lk_aload_n dX8_pays_51 rfl rfl ?_
      refine lk_getL (f := 3) dX8_pays_52 rfl fX8_347 (by decide) (by decide) ?_
      refine lk_lload dX8_pays_55 rfl ?_
      refine lk_ladd dX8_pays_57 ?_
      refine lk_lstore (L' := [(0, lk_vr 0 0), (1, lk_vl (n)), (3, lk_vl (v)), (5, lk_vl ((n) * (v))), (7, lk_vi 0), (8, lk_vl ((τ 0 3) + ((n) * (v))))]) dX8_pays_58 (by decide +kernel) rfl ?_
      refine lk_iload dX8_pays_60 rfl ?_
      refine lk_if_ne (tgt := 83) dX8_pays_62 (by decide) (fun hh3 => absurd hh3 (by decide)) (fun hh3 => ?_)
      refine lk_aload_n dX8_pays_65 rfl rfl ?_
      refine lk_getL (f := 3) dX8_pays_66 rfl fX8_347 (by decide) (by decide) ?_
      refine lk_lload dX8_pays_69 rfl ?_
      refine lk_lxor dX8_pays_71 ?_
      refine lk_lload dX8_pays_72 rfl ?_
      refine lk_lload dX8_pays_74 rfl ?_
      refine lk_lxor dX8_pays_76 ?_
      refine lk_land dX8_pays_77 ?_
      refine lk_lconst (v := 0) dX8_pays_78 rfl ?_
      refine lk_lcmp dX8_pays_79 ?_
      refine lk_if_ge (tgt := 86) dX8_pays_80 (by decide) (fun hh4 => ?_) (fun hh4 => ?_)
      ·
        refine lk_aload_n dX8_pays_86 rfl rfl ?_
        refine lk_lload dX8_pays_87 rfl ?_
        refine lk_putL (f := 3) dX8_pays_89 rfl fX8_347 (by decide) (by decide) ?_
        refine lk_iconst (v := 1) dX8_pays_92 (by decide) ?_
        refine lk_iret .int dX8_pays_93 rfl rfl ?_
        rw [hQ]
        exfalso
        simp only [lk_cmp0, lk_cmpg] at *
        simp only [lk_pbad] at h
        grind
      ·
        refine lk_bipush (v := (-7)) dX8_pays_83 (by decide) ?_
        refine lk_iret .int dX8_pays_85 rfl rfl ?_
        rw [hQ]
        exact ⟨by first | rfl | (simp [*]; done) | (simp_all; done) | grind, by first | rfl | (simp [*]; done), rfl⟩
    ·
      refine lk_lload dX8_pays_35 rfl ?_
      refine lk_lload_n dX8_pays_37 rfl rfl ?_
      refine lk_ldiv dX8_pays_38 (fun z => (show ¬ lg_cmp (n) (0) = 0 by assumption) (lk_cmp0.mpr z)) ?_
      refine lk_lload_n dX8_pays_39 rfl rfl ?_
      refine lk_lcmp dX8_pays_40 ?_
      refine lk_if_eq (tgt := 48) dX8_pays_41 (by decide) (fun hh5 => ?_) (fun hh5 => ?_)
      ·
        refine lk_iconst (v := 0) dX8_pays_48 (by decide) ?_
        refine lk_istore (L' := [(0, lk_vr 0 0), (1, lk_vl (n)), (3, lk_vl (v)), (5, lk_vl ((n) * (v))), (7, lk_vi 0)]) dX8_pays_49 (by decide +kernel) rfl ?_
        refine lk_aload_n dX8_pays_51 rfl rfl ?_
        refine lk_getL (f := 3) dX8_pays_52 rfl fX8_347 (by decide) (by decide) ?_
        refine lk_lload dX8_pays_55 rfl ?_
        refine lk_ladd dX8_pays_57 ?_
        refine lk_lstore (L' := [(0, lk_vr 0 0), (1, lk_vl (n)), (3, lk_vl (v)), (5, lk_vl ((n) * (v))), (7, lk_vi 0), (8, lk_vl ((τ 0 3) + ((n) * (v))))]) dX8_pays_58 (by decide +kernel) rfl ?_
        refine lk_iload dX8_pays_60 rfl ?_
        refine lk_if_ne (tgt := 83) dX8_pays_62 (by decide) (fun hh6 => absurd hh6 (by decide)) (fun hh6 => ?_)
        refine lk_aload_n dX8_pays_65 rfl rfl ?_
        refine lk_getL (f := 3) dX8_pays_66 rfl fX8_347 (by decide) (by decide) ?_
        refine lk_lload dX8_pays_69 rfl ?_
        refine lk_lxor dX8_pays_71 ?_
        refine lk_lload dX8_pays_72 rfl ?_
        refine lk_lload dX8_pays_74 rfl ?_
        refine lk_lxor dX8_pays_76 ?_
        refine lk_land dX8_pays_77 ?_
        refine lk_lconst (v := 0) dX8_pays_78 rfl ?_
        refine lk_lcmp dX8_pays_79 ?_
        refine lk_if_ge (tgt := 86) dX8_pays_80 (by decide) (fun hh7 => ?_) (fun hh7 => ?_)
        ·
          refine lk_aload_n dX8_pays_86 rfl rfl ?_
          refine lk_lload dX8_pays_87 rfl ?_
          refine lk_putL (f := 3) dX8_pays_89 rfl fX8_347 (by decide) (by decide) ?_
          refine lk_iconst (v := 1) dX8_pays_92 (by decide) ?_
          refine lk_iret .int dX8_pays_93 rfl rfl ?_
          rw [hQ]
          exfalso
          simp only [lk_cmp0, lk_cmpg] at *
          simp only [lk_pbad] at h
          grind
        ·
          refine lk_bipush (v := (-7)) dX8_pays_83 (by decide) ?_
          refine lk_iret .int dX8_pays_85 rfl rfl ?_
          rw [hQ]
          exact ⟨by first | rfl | (simp [*]; done) | (simp_all; done) | grind, by first | rfl | (simp [*]; done), rfl⟩
      ·
        refine lk_iconst (v := 1) dX8_pays_44 (by decide) ?_
        refine lk_goto (tgt := 49) dX8_pays_45 (by decide) ?_
        refine lk_istore (L' := [(0, lk_vr 0 0), (1, lk_vl (n)), (3, lk_vl (v)), (5, lk_vl ((n) * (v))), (7, lk_vi 1)]) dX8_pays_49 (by decide +kernel) rfl ?_
        refine lk_aload_n dX8_pays_51 rfl rfl ?_
        refine lk_getL (f := 3) dX8_pays_52 rfl fX8_347 (by decide) (by decide) ?_
        refine lk_lload dX8_pays_55 rfl ?_
        refine lk_ladd dX8_pays_57 ?_
        refine lk_lstore (L' := [(0, lk_vr 0 0), (1, lk_vl (n)), (3, lk_vl (v)), (5, lk_vl ((n) * (v))), (7, lk_vi 1), (8, lk_vl ((τ 0 3) + ((n) * (v))))]) dX8_pays_58 (by decide +kernel) rfl ?_
        refine lk_iload dX8_pays_60 rfl ?_
        refine lk_if_ne (tgt := 83) dX8_pays_62 (by decide) (fun hh8 => ?_) (fun hh8 => absurd hh8 (by decide))
        refine lk_bipush (v := (-7)) dX8_pays_83 (by decide) ?_
        refine lk_iret .int dX8_pays_85 rfl rfl ?_
        rw [hQ]
        exact ⟨by first | rfl | (simp [*]; done) | (simp_all; done) | grind, by first | rfl | (simp [*]; done), rfl⟩
  ·
    refine lk_lload_n dX8_pays_13 rfl rfl ?_
    refine lk_ldc2 dX8_pays_14 kX8_345 ?_
    refine lk_lcmp dX8_pays_17 ?_
    refine lk_if_ne (tgt := 25) dX8_pays_18 (by decide) (fun hh9 => ?_) (fun hh9 => ?_)
    ·
      refine lk_iconst (v := 0) dX8_pays_25 (by decide) ?_
      refine lk_goto (tgt := 49) dX8_pays_26 (by decide) ?_
      refine lk_istore (L' := [(0, lk_vr 0 0), (1, lk_vl (n)), (3, lk_vl (v)), (5, lk_vl ((n) * (v))), (7, lk_vi 0)]) dX8_pays_49 (by decide +kernel) rfl ?_
      refine lk_aload_n dX8_pays_51 rfl rfl ?_
      refine lk_getL (f := 3) dX8_pays_52 rfl fX8_347 (by decide) (by decide) ?_
      refine lk_lload dX8_pays_55 rfl ?_
      refine lk_ladd dX8_pays_57 ?_
      refine lk_lstore (L' := [(0, lk_vr 0 0), (1, lk_vl (n)), (3, lk_vl (v)), (5, lk_vl ((n) * (v))), (7, lk_vi 0), (8, lk_vl ((τ 0 3) + ((n) * (v))))]) dX8_pays_58 (by decide +kernel) rfl ?_
      refine lk_iload dX8_pays_60 rfl ?_
      refine lk_if_ne (tgt := 83) dX8_pays_62 (by decide) (fun hh10 => absurd hh10 (by decide)) (fun hh10 => ?_)
      refine lk_aload_n dX8_pays_65 rfl rfl ?_
      refine lk_getL (f := 3) dX8_pays_66 rfl fX8_347 (by decide) (by decide) ?_
      refine lk_lload dX8_pays_69 rfl ?_
      refine lk_lxor dX8_pays_71 ?_
      refine lk_lload dX8_pays_72 rfl ?_
      refine lk_lload dX8_pays_74 rfl ?_
      refine lk_lxor dX8_pays_76 ?_
      refine lk_land dX8_pays_77 ?_
      refine lk_lconst (v := 0) dX8_pays_78 rfl ?_
      refine lk_lcmp dX8_pays_79 ?_
      refine lk_if_ge (tgt := 86) dX8_pays_80 (by decide) (fun hh11 => ?_) (fun hh11 => ?_)
      ·
        refine lk_aload_n dX8_pays_86 rfl rfl ?_
        refine lk_lload dX8_pays_87 rfl ?_
        refine lk_putL (f := 3) dX8_pays_89 rfl fX8_347 (by decide) (by decide) ?_
        refine lk_iconst (v := 1) dX8_pays_92 (by decide) ?_
        refine lk_iret .int dX8_pays_93 rfl rfl ?_
        rw [hQ]
        exfalso
        simp only [lk_cmp0, lk_cmpg] at *
        simp only [lk_pbad] at h
        grind
      ·
        refine lk_bipush (v := (-7)) dX8_pays_83 (by decide) ?_
        refine lk_iret .int dX8_pays_85 rfl rfl ?_
        rw [hQ]
        exact ⟨by first | rfl | (simp [*]; done) | (simp_all; done) | grind, by first | rfl | (simp [*]; done), rfl⟩
    ·
      refine lk_iconst (v := 1) dX8_pays_21 (by decide) ?_
      refine lk_goto (tgt := 49) dX8_pays_22 (by decide) ?_
      refine lk_istore (L' := [(0, lk_vr 0 0), (1, lk_vl (n)), (3, lk_vl (v)), (5, lk_vl ((n) * (v))), (7, lk_vi 1)]) dX8_pays_49 (by decide +kernel) rfl ?_
      refine lk_aload_n dX8_pays_51 rfl rfl ?_
      refine lk_getL (f := 3) dX8_pays_52 rfl fX8_347 (by decide) (by decide) ?_
      refine lk_lload dX8_pays_55 rfl ?_
      refine lk_ladd dX8_pays_57 ?_
      refine lk_lstore (L' := [(0, lk_vr 0 0), (1, lk_vl (n)), (3, lk_vl (v)), (5, lk_vl ((n) * (v))), (7, lk_vi 1), (8, lk_vl ((τ 0 3) + ((n) * (v))))]) dX8_pays_58 (by decide +kernel) rfl ?_
      refine lk_iload dX8_pays_60 rfl ?_
      refine lk_if_ne (tgt := 83) dX8_pays_62 (by decide) (fun hh12 => ?_) (fun hh12 => absurd hh12 (by decide))
      refine lk_bipush (v := (-7)) dX8_pays_83 (by decide) ?_
      refine lk_iret .int dX8_pays_85 rfl rfl ?_
      rw [hQ]
      exact ⟨by first | rfl | (simp [*]; done) | (simp_all; done) | grind, by first | rfl | (simp [*]; done), rfl⟩

set_option maxHeartbeats 1000000 in
set_option maxRecDepth 100000 in
theorem tX8_pays_ok (l : Launch) (X : lk_G) (d : Nat) (σ : lk_N) (τ : lk_T) (n v : Int64) (h : lk_pbad (τ 0 3) n v = false) : lk_Mt l X mX8_pays d [lk_vr 0 0, lk_vl (n), lk_vl (v)] σ τ (fun rr σ1 τ1 => rr = some (lk_vi 1) ∧ σ1 = σ ∧ τ1 = lk_ut τ 0 3 (τ 0 3 + n * v)) := by
  refine lk_met (L := [(0, lk_vr 0 0), (1, lk_vl (n)), (3, lk_vl (v))]) (by decide +kernel) (Nat.le_of_ble_eq_true rfl) rfl ?_
  obtain ⟨Q, hQ⟩ : ∃ Q : lk_Q, Q = fun rr σ1 τ1 => rr = some (lk_vi 1) ∧ σ1 = σ ∧ τ1 = lk_ut τ 0 3 (τ 0 3 + n * v) := ⟨_, rfl⟩
  rw [← hQ]
  refine lk_lload_n dX8_pays_0 rfl rfl ?_
  refine lk_lload_n dX8_pays_1 rfl rfl ?_
  refine lk_lmul dX8_pays_2 ?_
  refine lk_lstore (L' := [(0, lk_vr 0 0), (1, lk_vl (n)), (3, lk_vl (v)), (5, lk_vl ((n) * (v)))]) dX8_pays_3 (by decide +kernel) rfl ?_
  refine lk_lload_n dX8_pays_5 rfl rfl ?_
  refine lk_ldc2 dX8_pays_6 kX8_343 ?_
  refine lk_lcmp dX8_pays_9 ?_
  refine lk_if_ne (tgt := 29) dX8_pays_10 (by decide) (fun hh1 => ?_) (fun hh1 => ?_)
  ·
    refine lk_lload_n dX8_pays_29 rfl rfl ?_
    refine lk_lconst (v := 0) dX8_pays_30 rfl ?_
    refine lk_lcmp dX8_pays_31 ?_
    refine lk_if_eq (tgt := 48) dX8_pays_32 (by decide) (fun hh2 => ?_) (fun hh2 => ?_)
    ·
      refine lk_iconst (v := 0) dX8_pays_48 (by decide) ?_
      refine lk_istore (L' := [(0, lk_vr 0 0), (1, lk_vl (n)), (3, lk_vl (v)), (5, lk_vl ((n) * (v))), (7, lk_vi 0)]) dX8_pays_49 (by decide +kernel) rfl ?_
      refine lk_aload_n dX8_pays_51 rfl rfl ?_
      refine lk_getL (f := 3) dX8_pays_52 rfl fX8_347 (by decide) (by decide) ?_
      refine lk_lload dX8_pays_55 rfl ?_
      refine lk_ladd dX8_pays_57 ?_
      refine lk_lstore (L' := [(0, lk_vr 0 0), (1, lk_vl (n)), (3, lk_vl (v)), (5, lk_vl ((n) * (v))), (7, lk_vi 0), (8, lk_vl ((τ 0 3) + ((n) * (v))))]) dX8_pays_58 (by decide +kernel) rfl ?_
      refine lk_iload dX8_pays_60 rfl ?_
      refine lk_if_ne (tgt := 83) dX8_pays_62 (by decide) (fun hh3 => absurd hh3 (by decide)) (fun hh3 => ?_)
      refine lk_aload_n dX8_pays_65 rfl rfl ?_
      refine lk_getL (f := 3) dX8_pays_66 rfl fX8_347 (by decide) (by decide) ?_
      refine lk_lload dX8_pays_69 rfl ?_
      refine lk_lxor dX8_pays_71 ?_
      refine lk_lload dX8_pays_72 rfl ?_
      refine lk_lload dX8_pays_74 rfl ?_
      refine lk_lxor dX8_pays_76 ?_
      refine lk_land dX8_pays_77 ?_
      refine lk_lconst (v := 0) dX8_pays_78 rfl ?_
      refine lk_lcmp dX8_pays_79 ?_
      refine lk_if_ge (tgt := 86) dX8_pays_80 (by decide) (fun hh4 => ?_) (fun hh4 => ?_)
      ·
        refine lk_aload_n dX8_pays_86 rfl rfl ?_
        refine lk_lload dX8_pays_87 rfl ?_
        refine lk_putL (f := 3) dX8_pays_89 rfl fX8_347 (by decide) (by decide) ?_
        refine lk_iconst (v := 1) dX8_pays_92 (by decide) ?_
        refine lk_iret .int dX8_pays_93 rfl rfl ?_
        rw [hQ]
        exact ⟨by first | rfl | (simp [*]; done) | (simp_all; done) | grind, by first | rfl | (simp [*]; done), rfl⟩
      ·
        refine lk_bipush (v := (-7)) dX8_pays_83 (by decide) ?_
        refine lk_iret .int dX8_pays_85 rfl rfl ?_
        rw [hQ]
        exfalso
        simp only [lk_cmp0, lk_cmpg] at *
        simp only [lk_pbad] at h
        grind
    ·
      refine lk_lload dX8_pays_35 rfl ?_
      refine lk_lload_n dX8_pays_37 rfl rfl ?_
      refine lk_ldiv dX8_pays_38 (fun z => (show ¬ lg_cmp (n) (0) = 0 by assumption) (lk_cmp0.mpr z)) ?_
      refine lk_lload_n dX8_pays_39 rfl rfl ?_
      refine lk_lcmp dX8_pays_40 ?_
      refine lk_if_eq (tgt := 48) dX8_pays_41 (by decide) (fun hh5 => ?_) (fun hh5 => ?_)
      ·
        refine lk_iconst (v := 0) dX8_pays_48 (by decide) ?_
        refine lk_istore (L' := [(0, lk_vr 0 0), (1, lk_vl (n)), (3, lk_vl (v)), (5, lk_vl ((n) * (v))), (7, lk_vi 0)]) dX8_pays_49 (by decide +kernel) rfl ?_
        refine lk_aload_n dX8_pays_51 rfl rfl ?_
        refine lk_getL (f := 3) dX8_pays_52 rfl fX8_347 (by decide) (by decide) ?_
        refine lk_lload dX8_pays_55 rfl ?_
        refine lk_ladd dX8_pays_57 ?_
        refine lk_lstore (L' := [(0, lk_vr 0 0), (1, lk_vl (n)), (3, lk_vl (v)), (5, lk_vl ((n) * (v))), (7, lk_vi 0), (8, lk_vl ((τ 0 3) + ((n) * (v))))]) dX8_pays_58 (by decide +kernel) rfl ?_
        refine lk_iload dX8_pays_60 rfl ?_
        refine lk_if_ne (tgt := 83) dX8_pays_62 (by decide) (fun hh6 => absurd hh6 (by decide)) (fun hh6 => ?_)
        refine lk_aload_n dX8_pays_65 rfl rfl ?_
        refine lk_getL (f := 3) dX8_pays_66 rfl fX8_347 (by decide) (by decide) ?_
        refine lk_lload dX8_pays_69 rfl ?_
        refine lk_lxor dX8_pays_71 ?_
        refine lk_lload dX8_pays_72 rfl ?_
        refine lk_lload dX8_pays_74 rfl ?_
        refine lk_lxor dX8_pays_76 ?_
        refine lk_land dX8_pays_77 ?_
        refine lk_lconst (v := 0) dX8_pays_78 rfl ?_
        refine lk_lcmp dX8_pays_79 ?_
        refine lk_if_ge (tgt := 86) dX8_pays_80 (by decide) (fun hh7 => ?_) (fun hh7 => ?_)
        ·
          refine lk_aload_n dX8_pays_86 rfl rfl ?_
          refine lk_lload dX8_pays_87 rfl ?_
          refine lk_putL (f := 3) dX8_pays_89 rfl fX8_347 (by decide) (by decide) ?_
          refine lk_iconst (v := 1) dX8_pays_92 (by decide) ?_
          refine lk_iret .int dX8_pays_93 rfl rfl ?_
          rw [hQ]
          exact ⟨by first | rfl | (simp [*]; done) | (simp_all; done) | grind, by first | rfl | (simp [*]; done), rfl⟩
        ·
          refine lk_bipush (v := (-7)) dX8_pays_83 (by decide) ?_
          refine lk_iret .int dX8_pays_85 rfl rfl ?_
          rw [hQ]
          exfalso
          simp only [lk_cmp0, lk_cmpg] at *
          simp only [lk_pbad] at h
          grind
      ·
        refine lk_iconst (v := 1) dX8_pays_44 (by decide) ?_
        refine lk_goto (tgt := 49) dX8_pays_45 (by decide) ?_
        refine lk_istore (L' := [(0, lk_vr 0 0), (1, lk_vl (n)), (3, lk_vl (v)), (5, lk_vl ((n) * (v))), (7, lk_vi 1)]) dX8_pays_49 (by decide +kernel) rfl ?_
        refine lk_aload_n dX8_pays_51 rfl rfl ?_
        refine lk_getL (f := 3) dX8_pays_52 rfl fX8_347 (by decide) (by decide) ?_
        refine lk_lload dX8_pays_55 rfl ?_
        refine lk_ladd dX8_pays_57 ?_
        refine lk_lstore (L' := [(0, lk_vr 0 0), (1, lk_vl (n)), (3, lk_vl (v)), (5, lk_vl ((n) * (v))), (7, lk_vi 1), (8, lk_vl ((τ 0 3) + ((n) * (v))))]) dX8_pays_58 (by decide +kernel) rfl ?_
        refine lk_iload dX8_pays_60 rfl ?_
        refine lk_if_ne (tgt := 83) dX8_pays_62 (by decide) (fun hh8 => ?_) (fun hh8 => absurd hh8 (by decide))
        refine lk_bipush (v := (-7)) dX8_pays_83 (by decide) ?_
        refine lk_iret .int dX8_pays_85 rfl rfl ?_
        rw [hQ]
        exfalso
        simp only [lk_cmp0, lk_cmpg] at *
        simp only [lk_pbad] at h
        grind
  ·
    refine lk_lload_n dX8_pays_13 rfl rfl ?_
    refine lk_ldc2 dX8_pays_14 kX8_345 ?_
    refine lk_lcmp dX8_pays_17 ?_
    refine lk_if_ne (tgt := 25) dX8_pays_18 (by decide) (fun hh9 => ?_) (fun hh9 => ?_)
    ·
      refine lk_iconst (v := 0) dX8_pays_25 (by decide) ?_
      refine lk_goto (tgt := 49) dX8_pays_26 (by decide) ?_
      refine lk_istore (L' := [(0, lk_vr 0 0), (1, lk_vl (n)), (3, lk_vl (v)), (5, lk_vl ((n) * (v))), (7, lk_vi 0)]) dX8_pays_49 (by decide +kernel) rfl ?_
      refine lk_aload_n dX8_pays_51 rfl rfl ?_
      refine lk_getL (f := 3) dX8_pays_52 rfl fX8_347 (by decide) (by decide) ?_
      refine lk_lload dX8_pays_55 rfl ?_
      refine lk_ladd dX8_pays_57 ?_
      refine lk_lstore (L' := [(0, lk_vr 0 0), (1, lk_vl (n)), (3, lk_vl (v)), (5, lk_vl ((n) * (v))), (7, lk_vi 0), (8, lk_vl ((τ 0 3) + ((n) * (v))))]) dX8_pays_58 (by decide +kernel) rfl ?_
      refine lk_iload dX8_pays_60 rfl ?_
      refine lk_if_ne (tgt := 83) dX8_pays_62 (by decide) (fun hh10 => absurd hh10 (by decide)) (fun hh10 => ?_)
      refine lk_aload_n dX8_pays_65 rfl rfl ?_
      refine lk_getL (f := 3) dX8_pays_66 rfl fX8_347 (by decide) (by decide) ?_
      refine lk_lload dX8_pays_69 rfl ?_
      refine lk_lxor dX8_pays_71 ?_
      refine lk_lload dX8_pays_72 rfl ?_
      refine lk_lload dX8_pays_74 rfl ?_
      refine lk_lxor dX8_pays_76 ?_
      refine lk_land dX8_pays_77 ?_
      refine lk_lconst (v := 0) dX8_pays_78 rfl ?_
      refine lk_lcmp dX8_pays_79 ?_
      refine lk_if_ge (tgt := 86) dX8_pays_80 (by decide) (fun hh11 => ?_) (fun hh11 => ?_)
      ·
        refine lk_aload_n dX8_pays_86 rfl rfl ?_
        refine lk_lload dX8_pays_87 rfl ?_
        refine lk_putL (f := 3) dX8_pays_89 rfl fX8_347 (by decide) (by decide) ?_
        refine lk_iconst (v := 1) dX8_pays_92 (by decide) ?_
        refine lk_iret .int dX8_pays_93 rfl rfl ?_
        rw [hQ]
        exact ⟨by first | rfl | (simp [*]; done) | (simp_all; done) | grind, by first | rfl | (simp [*]; done), rfl⟩
      ·
        refine lk_bipush (v := (-7)) dX8_pays_83 (by decide) ?_
        refine lk_iret .int dX8_pays_85 rfl rfl ?_
        rw [hQ]
        exfalso
        simp only [lk_cmp0, lk_cmpg] at *
        simp only [lk_pbad] at h
        grind
    ·
      refine lk_iconst (v := 1) dX8_pays_21 (by decide) ?_
      refine lk_goto (tgt := 49) dX8_pays_22 (by decide) ?_
      refine lk_istore (L' := [(0, lk_vr 0 0), (1, lk_vl (n)), (3, lk_vl (v)), (5, lk_vl ((n) * (v))), (7, lk_vi 1)]) dX8_pays_49 (by decide +kernel) rfl ?_
      refine lk_aload_n dX8_pays_51 rfl rfl ?_
      refine lk_getL (f := 3) dX8_pays_52 rfl fX8_347 (by decide) (by decide) ?_
      refine lk_lload dX8_pays_55 rfl ?_
      refine lk_ladd dX8_pays_57 ?_
      refine lk_lstore (L' := [(0, lk_vr 0 0), (1, lk_vl (n)), (3, lk_vl (v)), (5, lk_vl ((n) * (v))), (7, lk_vi 1), (8, lk_vl ((τ 0 3) + ((n) * (v))))]) dX8_pays_58 (by decide +kernel) rfl ?_
      refine lk_iload dX8_pays_60 rfl ?_
      refine lk_if_ne (tgt := 83) dX8_pays_62 (by decide) (fun hh12 => ?_) (fun hh12 => absurd hh12 (by decide))
      refine lk_bipush (v := (-7)) dX8_pays_83 (by decide) ?_
      refine lk_iret .int dX8_pays_85 rfl rfl ?_
      rw [hQ]
      exfalso
      simp only [lk_cmp0, lk_cmpg] at *
      simp only [lk_pbad] at h
      grind

set_option maxHeartbeats 1000000 in
set_option maxRecDepth 100000 in
theorem tX8_find (l : Launch) (X : lk_G) (d : Nat) (σ : lk_N) (τ : lk_T) (nf : Nat) (hn : σ 11 5 0 = nI nf) (hn12 : nf ≤ 12) (nt : Nat) (ht : σ 14 1 0 = nI nt) (ht60 : nt ≤ 60) : lk_Mt l X mX8_find (d + 2) [lk_vr 0 0] σ τ (fun rr σ1 τ1 => rr = some (lk_vi (if ¬ (lk_rdn (σ 14) nt 4 0 0).1 = 0 ∧ nt ≤ (lk_rdn (σ 14) nt 4 0 0).2 then lk_fno (σ 11) (lk_rdn (σ 14) nt 4 0 0).1 nf 0 else -2)) ∧ σ1 = lk_up (lk_up σ 14 2 0 (nI (lk_rdn (σ 14) nt 4 0 0).2)) 14 1 0 0 ∧ τ1 = τ) := by
  refine lk_met (L := [(0, lk_vr 0 0)]) (by decide +kernel) (Nat.le_of_ble_eq_true rfl) rfl ?_
  obtain ⟨Q, hQ⟩ : ∃ Q : lk_Q, Q = fun rr σ1 τ1 => rr = some (lk_vi (if ¬ (lk_rdn (σ 14) nt 4 0 0).1 = 0 ∧ nt ≤ (lk_rdn (σ 14) nt 4 0 0).2 then lk_fno (σ 11) (lk_rdn (σ 14) nt 4 0 0).1 nf 0 else -2)) ∧ σ1 = lk_up (lk_up σ 14 2 0 (nI (lk_rdn (σ 14) nt 4 0 0).2)) 14 1 0 0 ∧ τ1 = τ := ⟨_, rfl⟩
  rw [← hQ]
  have hrc : lk_rdn ((lk_up σ 14 2 0 0) 14) nt 4 0 0 = (lk_rdn (σ 14) nt 4 0 0) := lk_rdn_c (by funext i; simp [lk_up]) nt 4 0 0
  have hle := lk_rdn_le (σ 14) ht60 4 0 0 (Nat.zero_le _)
  refine lk_aload_n dX8_find_0 rfl rfl ?_
  refine lk_getO (f := 2) (o' := 14) dX8_find_1 rfl fX8_28 (by decide) (by decide) rfl ?_
  refine lk_iconst (v := 0) dX8_find_4 (by decide) ?_
  refine lk_putI (f := 2) dX8_find_5 rfl fX8_144 (by decide) (by decide) ?_
  refine lk_aload_n dX8_find_8 rfl rfl ?_
  refine lk_getO (f := 2) (o' := 14) dX8_find_9 rfl fX8_28 (by decide) (by decide) rfl ?_
  refine lk_callV (o := 14) (as := []) (S := []) dX8_find_12 rfl vX6_readName rfl lX8_173 rfl rfl (Nat.le_of_ble_eq_true rfl) (tX6_readName l X d (lk_up σ 14 2 0 0) τ (t := 14) (ht := rfl) (n := nt) (a := 0) (hn := by simp [lk_up, ht]) (hn60 := ht60) (ha := by simp [lk_up, lk_nI0]) (ha64 := by omega)) ?_
  refine lk_k3 ?_
  refine lk_cast (pc' := 15) (S' := [lk_vi ((lk_rdn ((lk_up σ 14 2 0 0) 14) nt 4 0 0).1)]) rfl rfl rfl ?_
  refine lk_eqtop (y := ((lk_rdn (σ 14) nt 4 0 0).1)) (by rw [hrc]) ?_
  refine lk_sg (σ' := lk_up σ 14 2 0 (nI (lk_rdn (σ 14) nt 4 0 0).2)) (by rw [hrc, lk_up_up]) ?_
  refine lk_istore_n (L' := [(0, lk_vr 0 0), (1, lk_vi ((lk_rdn (σ 14) nt 4 0 0).1))]) dX8_find_15 rfl (by decide +kernel) rfl ?_
  refine lk_iload_n dX8_find_16 rfl rfl ?_
  refine lk_if_eq (tgt := 34) dX8_find_17 (by decide) (fun hh1 => ?_) (fun hh1 => ?_)
  ·
    refine lk_iconst (v := 0) dX8_find_34 (by decide) ?_
    refine lk_istore_n (L' := [(0, lk_vr 0 0), (1, lk_vi ((lk_rdn (σ 14) nt 4 0 0).1)), (2, lk_vi 0)]) dX8_find_35 rfl (by decide +kernel) rfl ?_
    refine lk_aload_n dX8_find_36 rfl rfl ?_
    refine lk_getO (f := 2) (o' := 14) dX8_find_37 rfl fX8_28 (by decide) (by decide) rfl ?_
    refine lk_iconst (v := 0) dX8_find_40 (by decide) ?_
    refine lk_putI (f := 1) dX8_find_41 rfl fX8_133 (by decide) (by decide) ?_
    refine lk_iload_n dX8_find_44 rfl rfl ?_
    refine lk_if_eq (tgt := 59) dX8_find_45 (by decide) (fun hh2 => ?_) (fun hh2 => absurd hh2 (by decide))
    refine lk_bipush (v := (-2)) dX8_find_59 (by decide) ?_
    refine lk_iret .int dX8_find_61 rfl rfl ?_
    rw [hQ]
    first | (rw [if_pos ⟨by assumption, by assumption⟩]; exact ⟨rfl, rfl, rfl⟩) | (rw [if_neg (by rintro ⟨z1, z2⟩; contradiction)]; exact ⟨rfl, rfl, rfl⟩)
  ·
    refine lk_aload_n dX8_find_20 rfl rfl ?_
    refine lk_getO (f := 2) (o' := 14) dX8_find_21 rfl fX8_28 (by decide) (by decide) rfl ?_
    refine lk_callV (o := 14) (as := []) (S := []) dX8_find_24 rfl vX6_isAtEnd rfl lX8_154 rfl rfl (Nat.le_of_ble_eq_true rfl) (tX6_isAtEnd l X (d + 1) (lk_up σ 14 2 0 (nI (lk_rdn (σ 14) nt 4 0 0).2)) τ (t := 14) (ht := rfl) (n := nt) (a := (lk_rdn (σ 14) nt 4 0 0).2) (hn := by simp [lk_up, ht]) (hn60 := ht60) (ha := by simp [lk_up]) (ha64 := by omega)) ?_
    refine lk_k3 ?_
    refine lk_cast (pc' := 27) (S' := [lk_vi (if nt ≤ (lk_rdn (σ 14) nt 4 0 0).2 then 1 else 0)]) rfl rfl rfl ?_
    refine lk_if_eqB (tgt := 34) dX8_find_27 (by decide) (fun hh3 => ?_) (fun hh3 => ?_)
    ·
      refine lk_iconst (v := 0) dX8_find_34 (by decide) ?_
      refine lk_istore_n (L' := [(0, lk_vr 0 0), (1, lk_vi ((lk_rdn (σ 14) nt 4 0 0).1)), (2, lk_vi 0)]) dX8_find_35 rfl (by decide +kernel) rfl ?_
      refine lk_aload_n dX8_find_36 rfl rfl ?_
      refine lk_getO (f := 2) (o' := 14) dX8_find_37 rfl fX8_28 (by decide) (by decide) rfl ?_
      refine lk_iconst (v := 0) dX8_find_40 (by decide) ?_
      refine lk_putI (f := 1) dX8_find_41 rfl fX8_133 (by decide) (by decide) ?_
      refine lk_iload_n dX8_find_44 rfl rfl ?_
      refine lk_if_eq (tgt := 59) dX8_find_45 (by decide) (fun hh4 => ?_) (fun hh4 => absurd hh4 (by decide))
      refine lk_bipush (v := (-2)) dX8_find_59 (by decide) ?_
      refine lk_iret .int dX8_find_61 rfl rfl ?_
      rw [hQ]
      first | (rw [if_pos ⟨by assumption, by assumption⟩]; exact ⟨rfl, rfl, rfl⟩) | (rw [if_neg (by rintro ⟨z1, z2⟩; contradiction)]; exact ⟨rfl, rfl, rfl⟩)
    ·
      refine lk_iconst (v := 1) dX8_find_30 (by decide) ?_
      refine lk_goto (tgt := 35) dX8_find_31 (by decide) ?_
      refine lk_istore_n (L' := [(0, lk_vr 0 0), (1, lk_vi ((lk_rdn (σ 14) nt 4 0 0).1)), (2, lk_vi 1)]) dX8_find_35 rfl (by decide +kernel) rfl ?_
      refine lk_aload_n dX8_find_36 rfl rfl ?_
      refine lk_getO (f := 2) (o' := 14) dX8_find_37 rfl fX8_28 (by decide) (by decide) rfl ?_
      refine lk_iconst (v := 0) dX8_find_40 (by decide) ?_
      refine lk_putI (f := 1) dX8_find_41 rfl fX8_133 (by decide) (by decide) ?_
      refine lk_iload_n dX8_find_44 rfl rfl ?_
      refine lk_if_eq (tgt := 59) dX8_find_45 (by decide) (fun hh5 => absurd hh5 (by decide)) (fun hh5 => ?_)
      refine lk_aload_n dX8_find_48 rfl rfl ?_
      refine lk_getO (f := 1) (o' := 11) dX8_find_49 rfl fX8_21 (by decide) (by decide) rfl ?_
      refine lk_iload_n dX8_find_52 rfl rfl ?_
      refine lk_callV (o := 11) (as := [lk_vi ((lk_rdn (σ 14) nt 4 0 0).1)]) (S := []) dX8_find_53 rfl vX2_numberOf rfl lX8_176 rfl rfl (Nat.le_of_ble_eq_true rfl) (tX2_numberOf l X (d + 1) (lk_up (lk_up σ 14 2 0 (nI (lk_rdn (σ 14) nt 4 0 0).2)) 14 1 0 0) τ (f := 11) (w := ((lk_rdn (σ 14) nt 4 0 0).1)) (hf := rfl) (n := nf) (hn := by simp [lk_up, hn]) (hn22 := by omega)) ?_
      refine lk_k3 ?_
      refine lk_cast (pc' := 56) (S' := [lk_vi (lk_fno ((lk_up (lk_up σ 14 2 0 (nI (lk_rdn (σ 14) nt 4 0 0).2)) 14 1 0 0) 11) ((lk_rdn (σ 14) nt 4 0 0).1) nf 0)]) rfl rfl rfl ?_
      refine lk_eqtop (y := (lk_fno (σ 11) (lk_rdn (σ 14) nt 4 0 0).1 nf 0)) (by simp [lk_up_so, lk_so]) ?_
      refine lk_goto (tgt := 61) dX8_find_56 (by decide) ?_
      refine lk_iret .int dX8_find_61 rfl rfl ?_
      rw [hQ]
      first | (rw [if_pos ⟨by assumption, by assumption⟩]; exact ⟨rfl, rfl, rfl⟩) | (rw [if_neg (by rintro ⟨z1, z2⟩; contradiction)]; exact ⟨rfl, rfl, rfl⟩)

set_option maxHeartbeats 1000000 in
set_option maxRecDepth 100000 in
theorem tX8_take_full (l : Launch) (X : lk_G) (d : Nat) (σ : lk_N) (τ : lk_T) (t nf : Nat) (hn : σ 12 5 0 = nI nf) (hn22 : nf ≤ 22) (h : 12 < nf) : lk_Mt l X mX8_takeFleetInThought (d + 3) [lk_vr 0 0, lk_vi (nI (t))] σ τ (fun rr σ1 τ1 => rr = some (lk_vi (-3)) ∧ σ1 = σ ∧ τ1 = τ) := by
  refine lk_met (L := [(0, lk_vr 0 0), (1, lk_vi (nI (t)))]) (by decide +kernel) (Nat.le_of_ble_eq_true rfl) rfl ?_
  obtain ⟨Q, hQ⟩ : ∃ Q : lk_Q, Q = fun rr σ1 τ1 => rr = some (lk_vi (-3)) ∧ σ1 = σ ∧ τ1 = τ := ⟨_, rfl⟩
  rw [← hQ]
  refine lk_aload_n dX8_takeFleetInThought_0 rfl rfl ?_
  refine lk_getO (f := 9) (o' := 12) dX8_takeFleetInThought_1 rfl fX8_41 (by decide) (by decide) rfl ?_
  refine lk_getIv (v := (nI (nf))) (f := 5) dX8_takeFleetInThought_4 rfl fX8_76 (by decide) (by decide) hn ?_
  refine lk_bipush (v := 12) dX8_takeFleetInThought_7 (by decide) ?_
  refine lk_icmp_leN (a := nf) (b := 12) (tgt := 15) dX8_takeFleetInThought_9 (by decide) (by omega) (by omega) (fun hh1 => absurd hh1 (by omega)) (fun hh1 => ?_)
  refine lk_bipush (v := (-3)) dX8_takeFleetInThought_12 (by decide) ?_
  refine lk_iret .int dX8_takeFleetInThought_14 rfl rfl ?_
  rw [hQ]
  exact ⟨by first | rfl | (simp [*]; done) | (simp_all; done) | grind, by first | rfl | (simp [*]; done), rfl⟩

set_option maxHeartbeats 1000000 in
set_option maxRecDepth 100000 in
theorem tX8_take_ok (l : Launch) (X : lk_G) (d : Nat) (σ : lk_N) (τ : lk_T) (t nf : Nat) (hn : σ 12 5 0 = nI nf) (h : nf ≤ 12) (h01 : ∀ i, i < 22 → σ 12 3 i = 0 ∨ σ 12 3 i = 1) : lk_Mt l X mX8_takeFleetInThought (d + 3) [lk_vr 0 0, lk_vi (nI (t))] σ τ (fun rr σ1 τ1 => rr = some (lk_vi (nI (t))) ∧ σ1 = lk_so σ 11 (σ 12) ∧ τ1 = τ) := by
  refine lk_met (L := [(0, lk_vr 0 0), (1, lk_vi (nI (t)))]) (by decide +kernel) (Nat.le_of_ble_eq_true rfl) rfl ?_
  obtain ⟨Q, hQ⟩ : ∃ Q : lk_Q, Q = fun rr σ1 τ1 => rr = some (lk_vi (nI (t))) ∧ σ1 = lk_so σ 11 (σ 12) ∧ τ1 = τ := ⟨_, rfl⟩
  rw [← hQ]
  refine lk_aload_n dX8_takeFleetInThought_0 rfl rfl ?_
  refine lk_getO (f := 9) (o' := 12) dX8_takeFleetInThought_1 rfl fX8_41 (by decide) (by decide) rfl ?_
  refine lk_getIv (v := (nI (nf))) (f := 5) dX8_takeFleetInThought_4 rfl fX8_76 (by decide) (by decide) hn ?_
  refine lk_bipush (v := 12) dX8_takeFleetInThought_7 (by decide) ?_
  refine lk_icmp_leN (a := nf) (b := 12) (tgt := 15) dX8_takeFleetInThought_9 (by decide) (by omega) (by omega) (fun hh1 => ?_) (fun hh1 => absurd hh1 (by omega))
  refine lk_aload_n dX8_takeFleetInThought_15 rfl rfl ?_
  refine lk_getO (f := 1) (o' := 11) dX8_takeFleetInThought_16 rfl fX8_21 (by decide) (by decide) rfl ?_
  refine lk_aload_n dX8_takeFleetInThought_19 rfl rfl ?_
  refine lk_getO (f := 9) (o' := 12) dX8_takeFleetInThought_20 rfl fX8_41 (by decide) (by decide) rfl ?_
  refine lk_callV (o := 11) (as := [lk_vr 12 0]) (S := []) dX8_takeFleetInThought_23 rfl vX2_copyFrom rfl lX8_140 rfl rfl (Nat.le_of_ble_eq_true rfl) (tX2_copyFrom l X d σ τ (f := 11) (o := 12) (hf := rfl) (ho := rfl) (hfo := by decide) (h01 := h01)) ?_
  refine lk_k3 ?_
  refine lk_cast (pc' := 26) (S' := []) rfl rfl rfl ?_
  refine lk_iload_n dX8_takeFleetInThought_26 rfl rfl ?_
  refine lk_iret .int dX8_takeFleetInThought_27 rfl rfl ?_
  rw [hQ]
  exact ⟨by first | rfl | (simp [*]; done) | (simp_all; done) | grind, by first | rfl | (simp [*]; done), rfl⟩
