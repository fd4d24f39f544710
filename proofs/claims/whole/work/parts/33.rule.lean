/-- boat a is ahead of boat b: by rank, then by name -/
def lk_ahd (R : Nat → Int32) (a b : Nat) : Bool := decide (R b < R a) || (decide (R a = R b) && decide (a < b))
theorem lk_ahd_t {R : Nat → Int32} {a b : Nat} (h : R b < R a ∨ (R a = R b ∧ a < b)) : lk_ahd R a b = true := by
  simp only [lk_ahd, Bool.or_eq_true, Bool.and_eq_true, decide_eq_true_eq]; exact h
theorem lk_ahd_f {R : Nat → Int32} {a b : Nat} (h : ¬ (R b < R a ∨ (R a = R b ∧ a < b))) : ¬ lk_ahd R a b = true := by
  simp only [lk_ahd, Bool.or_eq_true, Bool.and_eq_true, decide_eq_true_eq]; exact h
/-- whether the next one comes from below, by a rule, i and j being gone -/
def lk_frb (R : Nat → Int32) (qb qa : Nat → Nat) (nb na i j : Nat) (fu : Int32) (ru : Nat) : Bool :=
  if nb ≤ i ∨ na ≤ j then decide (i < nb) else match ru with
    | 0 => decide (i ≤ j)
    | 1 => lk_ahd R (qb i) (qa j)
    | 2 => true
    | _ => decide (fu = 0)
/-- a run by a rule, m boats being left: who went, what was spent, what it leaves -/
def lk_rr (R Z : Nat → Int32) (qb qa : Nat → Nat) (nb na k ru : Nat) : Nat → Nat → Nat → Int32 → lk_O → lk_O → (Nat × Nat × Int32) × lk_J
  | 0, i, j, sp, V, T => ((i, j, sp), none, V, T)
  | m + 1, i, j, sp, V, T => match lk_frb R qb qa nb na i j (V 5 k) ru with
    | true => match lk_pas V k true (Z (qb i)) with
      | .inl V' => lk_rr R Z qb qa nb na k ru m (i + 1) j (sp + (V 6 (k + 1) - V' 6 (k + 1))) V' (lk_tad T (V 6 (k + 1) - V' 6 (k + 1)))
      | .inr q => ((i, j, sp), some (k, q), V, T)
    | false => match lk_pas V k false (Z (qa j)) with
      | .inl V' => lk_rr R Z qb qa nb na k ru m i (j + 1) (sp + (V 6 (k + 1) - V' 6 (k + 1))) V' (lk_tad T (V 6 (k + 1) - V' 6 (k + 1)))
      | .inr q => ((i, j, sp), some (k, q), V, T)
set_option maxHeartbeats 1000000 in
set_option maxRecDepth 100000 in
theorem tX4_done (l : Launch) (X : lk_G) (d : Nat) (σ : lk_N) (τ : lk_T) (y : Nat) (hy : lk_ko y = 4) (i j : Nat) (hi : σ y 0 0 = nI i) (hj : σ y 1 0 = nI j) : lk_Mt l X mX4_done d [lk_vr y 0] σ τ (fun rr σ1 τ1 => rr = some (lk_vi (nI (i + j))) ∧ σ1 = σ ∧ τ1 = τ) := by
  refine lk_met (L := [(0, lk_vr y 0)]) (by decide +kernel) (Nat.le_of_ble_eq_true rfl) rfl ?_
  obtain ⟨Q, hQ⟩ : ∃ Q : lk_Q, Q = fun rr σ1 τ1 => rr = some (lk_vi (nI (i + j))) ∧ σ1 = σ ∧ τ1 = τ := ⟨_, rfl⟩
  rw [← hQ]
  refine lk_aload_n dX4_done_0 rfl rfl ?_
  refine lk_getIv (v := nI (i)) (f := 0) dX4_done_1 hy fX4_9 (by decide) (by decide) hi ?_
  refine lk_aload_n dX4_done_4 rfl rfl ?_
  refine lk_getIv (v := nI (j)) (f := 1) dX4_done_5 hy fX4_15 (by decide) (by decide) hj ?_
  refine lk_iaddN (a := i) (b := j) dX4_done_8 ?_
  refine lk_iret .int dX4_done_9 rfl rfl ?_
  rw [hQ]
  exact ⟨by first | rfl | (simp [*]; done) | (simp_all; done) | grind, by first | rfl | (simp [*]; done), rfl⟩

set_option maxHeartbeats 1000000 in
set_option maxRecDepth 100000 in
theorem tX4_isAhead (l : Launch) (X : lk_G) (d : Nat) (σ : lk_N) (τ : lk_T) (f : Nat) (hf : lk_ko f = 2) (n : Nat) (hn : σ f 5 0 = nI n) (hn22 : n ≤ 22) (a b : Nat) (ha : a < n) (hb : b < n) : lk_Mt l X mX4_isAhead (d + 2) [lk_vr f 0, lk_vi (nI (a)), lk_vi (nI (b))] σ τ (fun rr σ1 τ1 => rr = some (lk_vi (if lk_ahd (σ f 2) a b = true then 1 else 0)) ∧ σ1 = σ ∧ τ1 = τ) := by
  refine lk_met (L := [(0, lk_vr f 0), (1, lk_vi (nI (a))), (2, lk_vi (nI (b)))]) (by decide +kernel) (Nat.le_of_ble_eq_true rfl) rfl ?_
  obtain ⟨Q, hQ⟩ : ∃ Q : lk_Q, Q = fun rr σ1 τ1 => rr = some (lk_vi (if lk_ahd (σ f 2) a b = true then 1 else 0)) ∧ σ1 = σ ∧ τ1 = τ := ⟨_, rfl⟩
  rw [← hQ]
  refine lk_aload_n dX4_isAhead_0 rfl rfl ?_
  refine lk_iload_n dX4_isAhead_1 rfl rfl ?_
  refine lk_callV (o := f) (as := [lk_vi (nI (a))]) (S := []) dX4_isAhead_2 rfl vX2_rankOf rfl lX4_58 hf rfl (Nat.le_of_ble_eq_true rfl) (tX2_rankOf l X d σ τ (f := f) (b := (a)) (hf := hf) (n := n) (hn := hn) (hb := ha) (hn22 := hn22)) ?_
  refine lk_k3 ?_
  refine lk_cast (pc' := 5) (S' := [lk_vi (σ f 2 (a))]) rfl rfl rfl ?_
  refine lk_istore_n (L' := [(0, lk_vr f 0), (1, lk_vi (nI (a))), (2, lk_vi (nI (b))), (3, lk_vi (σ f 2 (a)))]) dX4_isAhead_5 rfl (by decide +kernel) rfl ?_
  refine lk_aload_n dX4_isAhead_6 rfl rfl ?_
  refine lk_iload_n dX4_isAhead_7 rfl rfl ?_
  refine lk_callV (o := f) (as := [lk_vi (nI (b))]) (S := []) dX4_isAhead_8 rfl vX2_rankOf rfl lX4_58 hf rfl (Nat.le_of_ble_eq_true rfl) (tX2_rankOf l X d σ τ (f := f) (b := (b)) (hf := hf) (n := n) (hn := hn) (hb := hb) (hn22 := hn22)) ?_
  refine lk_k3 ?_
  refine lk_cast (pc' := 11) (S' := [lk_vi (σ f 2 (b))]) rfl rfl rfl ?_
  refine lk_istore (L' := [(0, lk_vr f 0), (1, lk_vi (nI (a))), (2, lk_vi (nI (b))), (3, lk_vi (σ f 2 (a))), (4, lk_vi (σ f 2 (b)))]) dX4_isAhead_11 (by decide +kernel) rfl ?_
  refine lk_iload_n dX4_isAhead_13 rfl rfl ?_
  refine lk_iload dX4_isAhead_14 rfl ?_
  refine lk_icmp_gt (tgt := 30) dX4_isAhead_16 (by decide) (fun hh1 => ?_) (fun hh1 => ?_)
  ·
    refine lk_iconst (v := 1) dX4_isAhead_30 (by decide) ?_
    refine lk_goto (tgt := 35) dX4_isAhead_31 (by decide) ?_
    refine lk_iret .boolean dX4_isAhead_35 rfl rfl ?_
    rw [hQ]
    refine ⟨?_, rfl, rfl⟩
    first | (rw [if_pos (lk_ahd_t (by first | exact Or.inl (by assumption) | exact Or.inr ⟨by assumption, by omega⟩))]) | (rw [if_neg (lk_ahd_f (by rintro (z | ⟨z1, z2⟩) <;> first | contradiction | omega))])
  ·
    refine lk_iload_n dX4_isAhead_19 rfl rfl ?_
    refine lk_iload dX4_isAhead_20 rfl ?_
    refine lk_icmp_ne (tgt := 34) dX4_isAhead_22 (by decide) (fun hh2 => ?_) (fun hh2 => ?_)
    ·
      refine lk_iconst (v := 0) dX4_isAhead_34 (by decide) ?_
      refine lk_iret .boolean dX4_isAhead_35 rfl rfl ?_
      rw [hQ]
      refine ⟨?_, rfl, rfl⟩
      first | (rw [if_pos (lk_ahd_t (by first | exact Or.inl (by assumption) | exact Or.inr ⟨by assumption, by omega⟩))]) | (rw [if_neg (lk_ahd_f (by rintro (z | ⟨z1, z2⟩) <;> first | contradiction | omega))])
    ·
      refine lk_iload_n dX4_isAhead_25 rfl rfl ?_
      refine lk_iload_n dX4_isAhead_26 rfl rfl ?_
      refine lk_icmp_geN (a := a) (b := b) (tgt := 34) dX4_isAhead_27 (by decide) (by omega) (by omega) (fun hh3 => ?_) (fun hh3 => ?_)
      ·
        refine lk_iconst (v := 0) dX4_isAhead_34 (by decide) ?_
        refine lk_iret .boolean dX4_isAhead_35 rfl rfl ?_
        rw [hQ]
        refine ⟨?_, rfl, rfl⟩
        first | (rw [if_pos (lk_ahd_t (by first | exact Or.inl (by assumption) | exact Or.inr ⟨by assumption, by omega⟩))]) | (rw [if_neg (lk_ahd_f (by rintro (z | ⟨z1, z2⟩) <;> first | contradiction | omega))])
      ·
        refine lk_iconst (v := 1) dX4_isAhead_30 (by decide) ?_
        refine lk_goto (tgt := 35) dX4_isAhead_31 (by decide) ?_
        refine lk_iret .boolean dX4_isAhead_35 rfl rfl ?_
        rw [hQ]
        refine ⟨?_, rfl, rfl⟩
        first | (rw [if_pos (lk_ahd_t (by first | exact Or.inl (by assumption) | exact Or.inr ⟨by assumption, by omega⟩))]) | (rw [if_neg (lk_ahd_f (by rintro (z | ⟨z1, z2⟩) <;> first | contradiction | omega))])

set_option maxHeartbeats 1000000 in
set_option maxRecDepth 100000 in
theorem tX4_isFromBelowNext (l : Launch) (X : lk_G) (d : Nat) (σ : lk_N) (τ : lk_T) (y : Nat) (hy : lk_ko y = 4) (f : Nat) (hf : lk_ko f = 2) (n : Nat) (hn : σ f 5 0 = nI n) (hn22 : n ≤ 22) (g h : Nat) (hg : lk_ko g = 3) (hh : lk_ko h = 3) (nb na : Nat) (qb qa : Nat → Nat) (hgb : σ g 1 0 = nI nb) (hha : σ h 1 0 = nI na) (hnb : nb ≤ 22) (hna : na ≤ 22) (hqb : ∀ i, i < nb → σ g 0 i = nI (qb i)) (hqa : ∀ i, i < na → σ h 0 i = nI (qa i)) (hqbn : ∀ i, i < nb → qb i < n) (hqan : ∀ i, i < na → qa i < n) (i j ru : Nat) (fu : Int32) (hi : σ y 0 0 = nI i) (hj : σ y 1 0 = nI j) (hi9 : i ≤ 22) (hj9 : j ≤ 22) (hru : ru ≤ 3) : lk_Mt l X mX4_isFromBelowNext (d + 3) [lk_vr y 0, lk_vr f 0, lk_vr g 0, lk_vr h 0, lk_vi (fu), lk_vi (nI (ru))] σ τ (fun rr σ1 τ1 => rr = some (lk_vi (if lk_frb (σ f 2) qb qa nb na i j fu ru = true then 1 else 0)) ∧ σ1 = σ ∧ τ1 = τ) := by
  refine lk_met (L := [(0, lk_vr y 0), (1, lk_vr f 0), (2, lk_vr g 0), (3, lk_vr h 0), (4, lk_vi (fu)), (5, lk_vi (nI (ru)))]) (by decide +kernel) (Nat.le_of_ble_eq_true rfl) rfl ?_
  obtain ⟨Q, hQ⟩ : ∃ Q : lk_Q, Q = fun rr σ1 τ1 => rr = some (lk_vi (if lk_frb (σ f 2) qb qa nb na i j fu ru = true then 1 else 0)) ∧ σ1 = σ ∧ τ1 = τ := ⟨_, rfl⟩
  rw [← hQ]
  refine lk_aload_n dX4_isFromBelowNext_0 rfl rfl ?_
  refine lk_getIv (v := nI (i)) (f := 0) dX4_isFromBelowNext_1 hy fX4_9 (by decide) (by decide) hi ?_
  refine lk_aload_n dX4_isFromBelowNext_4 rfl rfl ?_
  refine lk_getIv (v := nI (nb)) (f := 1) dX4_isFromBelowNext_5 hg fX4_21 (by decide) (by decide) hgb ?_
  refine lk_icmp_geN (a := i) (b := nb) (tgt := 22) dX4_isFromBelowNext_8 (by decide) (by omega) (by omega) (fun hh1 => ?_) (fun hh1 => ?_)
  ·
    refine lk_aload_n dX4_isFromBelowNext_22 rfl rfl ?_
    refine lk_getIv (v := nI (i)) (f := 0) dX4_isFromBelowNext_23 hy fX4_9 (by decide) (by decide) hi ?_
    refine lk_aload_n dX4_isFromBelowNext_26 rfl rfl ?_
    refine lk_getIv (v := nI (nb)) (f := 1) dX4_isFromBelowNext_27 hg fX4_21 (by decide) (by decide) hgb ?_
    refine lk_icmp_geN (a := i) (b := nb) (tgt := 37) dX4_isFromBelowNext_30 (by decide) (by omega) (by omega) (fun hh2 => ?_) (fun hh2 => ?_)
    ·
      refine lk_iconst (v := 0) dX4_isFromBelowNext_37 (by decide) ?_
      refine lk_iret .boolean dX4_isFromBelowNext_38 rfl rfl ?_
      rw [hQ]
      refine ⟨?_, rfl, rfl⟩
      have z : lk_frb (σ f 2) qb qa nb na i j fu ru = false := by unfold lk_frb; rw [if_pos (by omega)]; simp; omega
      rw [z]; rfl
    ·
      refine lk_iconst (v := 1) dX4_isFromBelowNext_33 (by decide) ?_
      refine lk_goto (tgt := 38) dX4_isFromBelowNext_34 (by decide) ?_
      refine lk_iret .boolean dX4_isFromBelowNext_38 rfl rfl ?_
      rw [hQ]
      refine ⟨?_, rfl, rfl⟩
      have z : lk_frb (σ f 2) qb qa nb na i j fu ru = true := by unfold lk_frb; rw [if_pos (by omega)]; simp; omega
      rw [z]; rfl
  ·
    refine lk_aload_n dX4_isFromBelowNext_11 rfl rfl ?_
    refine lk_getIv (v := nI (j)) (f := 1) dX4_isFromBelowNext_12 hy fX4_15 (by decide) (by decide) hj ?_
    refine lk_aload_n dX4_isFromBelowNext_15 rfl rfl ?_
    refine lk_getIv (v := nI (na)) (f := 1) dX4_isFromBelowNext_16 hh fX4_21 (by decide) (by decide) hha ?_
    refine lk_icmp_ltN (a := j) (b := na) (tgt := 39) dX4_isFromBelowNext_19 (by decide) (by omega) (by omega) (fun hh3 => ?_) (fun hh3 => ?_)
    ·
      refine lk_iload dX4_isFromBelowNext_39 rfl ?_
      rcases (show ru = 0 ∨ ru = 1 ∨ ru = 2 ∨ (2 < ru) by omega) with rfl | rfl | rfl | hh4
      ·
        refine lk_tableIn (off := 27) (tgt := 68) dX4_isFromBelowNext_41 (by decide) (by decide) rfl (by decide) ?_
        refine lk_aload_n dX4_isFromBelowNext_68 rfl rfl ?_
        refine lk_getIv (v := nI (i)) (f := 0) dX4_isFromBelowNext_69 hy fX4_9 (by decide) (by decide) hi ?_
        refine lk_aload_n dX4_isFromBelowNext_72 rfl rfl ?_
        refine lk_getIv (v := nI (j)) (f := 1) dX4_isFromBelowNext_73 hy fX4_15 (by decide) (by decide) hj ?_
        refine lk_icmp_gtN (a := i) (b := j) (tgt := 83) dX4_isFromBelowNext_76 (by decide) (by omega) (by omega) (fun hh5 => ?_) (fun hh5 => ?_)
        ·
          refine lk_iconst (v := 0) dX4_isFromBelowNext_83 (by decide) ?_
          refine lk_iret .boolean dX4_isFromBelowNext_84 rfl rfl ?_
          rw [hQ]
          refine ⟨?_, rfl, rfl⟩
          have z : lk_frb (σ f 2) qb qa nb na i j fu 0 = false := by unfold lk_frb; rw [if_neg (by omega)]; simp; omega
          rw [z]; rfl
        ·
          refine lk_iconst (v := 1) dX4_isFromBelowNext_79 (by decide) ?_
          refine lk_goto (tgt := 84) dX4_isFromBelowNext_80 (by decide) ?_
          refine lk_iret .boolean dX4_isFromBelowNext_84 rfl rfl ?_
          rw [hQ]
          refine ⟨?_, rfl, rfl⟩
          have z : lk_frb (σ f 2) qb qa nb na i j fu 0 = true := by unfold lk_frb; rw [if_neg (by omega)]; simp; omega
          rw [z]; rfl
      ·
        refine lk_tableIn (off := 44) (tgt := 85) dX4_isFromBelowNext_41 (by decide) (by decide) rfl (by decide) ?_
        refine lk_aload_n dX4_isFromBelowNext_85 rfl rfl ?_
        refine lk_aload_n dX4_isFromBelowNext_86 rfl rfl ?_
        refine lk_aload_n dX4_isFromBelowNext_87 rfl rfl ?_
        refine lk_getIv (v := nI (i)) (f := 0) dX4_isFromBelowNext_88 hy fX4_9 (by decide) (by decide) hi ?_
        refine lk_callV (o := g) (as := [lk_vi (nI (i))]) (S := [lk_vr f 0]) dX4_isFromBelowNext_91 rfl vX3_boatAt rfl lX4_40 hg rfl (Nat.le_of_ble_eq_true rfl) (tX3_boatAt_in l X (d + 2) σ τ (g := g) (i := (i)) (hg := hg) (hc := hgb) (hi := by omega) (hc22 := hnb) (hx := hqb i (by omega))) ?_
        refine lk_k3 ?_
        refine lk_cast (pc' := 94) (S' := [lk_vi (nI ((qb i))), lk_vr f 0]) rfl rfl rfl ?_
        refine lk_aload_n dX4_isFromBelowNext_94 rfl rfl ?_
        refine lk_aload_n dX4_isFromBelowNext_95 rfl rfl ?_
        refine lk_getIv (v := nI (j)) (f := 1) dX4_isFromBelowNext_96 hy fX4_15 (by decide) (by decide) hj ?_
        refine lk_callV (o := h) (as := [lk_vi (nI (j))]) (S := [lk_vi (nI ((qb i))), lk_vr f 0]) dX4_isFromBelowNext_99 rfl vX3_boatAt rfl lX4_40 hh rfl (Nat.le_of_ble_eq_true rfl) (tX3_boatAt_in l X (d + 2) σ τ (g := h) (i := (j)) (hg := hh) (hc := hha) (hi := by omega) (hc22 := hna) (hx := hqa j (by omega))) ?_
        refine lk_k3 ?_
        refine lk_cast (pc' := 102) (S' := [lk_vi (nI ((qa j))), lk_vi (nI ((qb i))), lk_vr f 0]) rfl rfl rfl ?_
        refine lk_callS (as := [lk_vr f 0, lk_vi (nI ((qb i))), lk_vi (nI ((qa j)))]) (S := []) dX4_isFromBelowNext_102 rfl vX4_isAhead rfl lX4_54 (Nat.le_of_ble_eq_true rfl) (tX4_isAhead l X d σ τ (f := f) (a := ((qb i))) (b := ((qa j))) (hf := hf) (n := n) (hn := hn) (hn22 := hn22) (ha := hqbn i (by omega)) (hb := hqan j (by omega))) ?_
        refine lk_k3 ?_
        refine lk_cast (pc' := 105) (S' := [lk_vi (if lk_ahd (σ f 2) ((qb i)) ((qa j)) = true then 1 else 0)]) rfl rfl rfl ?_
        refine lk_iret .boolean dX4_isFromBelowNext_105 rfl (lk_nb ()) ?_
        rw [hQ]
        refine ⟨?_, rfl, rfl⟩
        have z : lk_frb (σ f 2) qb qa nb na i j fu 1 = lk_ahd (σ f 2) (qb i) (qa j) := by unfold lk_frb; rw [if_neg (by omega)]; rfl
        rw [z]
      ·
        refine lk_tableIn (off := 65) (tgt := 106) dX4_isFromBelowNext_41 (by decide) (by decide) rfl (by decide) ?_
        refine lk_iconst (v := 1) dX4_isFromBelowNext_106 (by decide) ?_
        refine lk_iret .boolean dX4_isFromBelowNext_107 rfl rfl ?_
        rw [hQ]
        refine ⟨?_, rfl, rfl⟩
        have z : lk_frb (σ f 2) qb qa nb na i j fu 2 = true := by unfold lk_frb; rw [if_neg (by omega)]; rfl
        rw [z]; rfl
      ·
        refine lk_tableOut (tgt := 108) dX4_isFromBelowNext_41 (by rw [nI_toInt (by omega)]; omega) (by decide) ?_
        refine lk_iload dX4_isFromBelowNext_108 rfl ?_
        refine lk_if_ne (tgt := 117) dX4_isFromBelowNext_110 (by decide) (fun hh6 => ?_) (fun hh6 => ?_)
        ·
          refine lk_iconst (v := 0) dX4_isFromBelowNext_117 (by decide) ?_
          refine lk_iret .boolean dX4_isFromBelowNext_118 rfl rfl ?_
          rw [hQ]
          have hr3 : ru = 3 := by omega
          rw [hr3]
          refine ⟨?_, rfl, rfl⟩
          have z : lk_frb (σ f 2) qb qa nb na i j fu 3 = false := by unfold lk_frb; rw [if_neg (by omega)]; simp [*]
          rw [z]; rfl
        ·
          refine lk_iconst (v := 1) dX4_isFromBelowNext_113 (by decide) ?_
          refine lk_goto (tgt := 118) dX4_isFromBelowNext_114 (by decide) ?_
          refine lk_iret .boolean dX4_isFromBelowNext_118 rfl rfl ?_
          rw [hQ]
          have hr3 : ru = 3 := by omega
          rw [hr3]
          refine ⟨?_, rfl, rfl⟩
          have z : lk_frb (σ f 2) qb qa nb na i j fu 3 = true := by unfold lk_frb; rw [if_neg (by omega)]; simp [*]
          rw [z]; rfl
    ·
      refine lk_aload_n dX4_isFromBelowNext_22 rfl rfl ?_
      refine lk_getIv (v := nI (i)) (f := 0) dX4_isFromBelowNext_23 hy fX4_9 (by decide) (by decide) hi ?_
      refine lk_aload_n dX4_isFromBelowNext_26 rfl rfl ?_
      refine lk_getIv (v := nI (nb)) (f := 1) dX4_isFromBelowNext_27 hg fX4_21 (by decide) (by decide) hgb ?_
      refine lk_icmp_geN (a := i) (b := nb) (tgt := 37) dX4_isFromBelowNext_30 (by decide) (by omega) (by omega) (fun hh7 => ?_) (fun hh7 => ?_)
      ·
        refine lk_iconst (v := 0) dX4_isFromBelowNext_37 (by decide) ?_
        refine lk_iret .boolean dX4_isFromBelowNext_38 rfl rfl ?_
        rw [hQ]
        refine ⟨?_, rfl, rfl⟩
        have z : lk_frb (σ f 2) qb qa nb na i j fu ru = false := by unfold lk_frb; rw [if_pos (by omega)]; simp; omega
        rw [z]; rfl
      ·
        refine lk_iconst (v := 1) dX4_isFromBelowNext_33 (by decide) ?_
        refine lk_goto (tgt := 38) dX4_isFromBelowNext_34 (by decide) ?_
        refine lk_iret .boolean dX4_isFromBelowNext_38 rfl rfl ?_
        rw [hQ]
        refine ⟨?_, rfl, rfl⟩
        have z : lk_frb (σ f 2) qb qa nb na i j fu ru = true := by unfold lk_frb; rw [if_pos (by omega)]; simp; omega
        rw [z]; rfl
