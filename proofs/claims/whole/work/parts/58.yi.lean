theorem lk_g120 {σ : lk_N} {V T : lk_O} (h1 : σ 1 0 233 = 0) (h2 : σ 1 0 234 = 0) {k : Nat} (hk : k < 120) : (k < 118 ∧ lk_ms σ V T 1 0 (115 + k) = T 0 k) ∨ (118 ≤ k ∧ lk_ms σ V T 1 0 (115 + k) = 0) := by
  rcases Nat.lt_or_ge k 118 with h | h
  · exact Or.inl ⟨h, lk_rT rfl h⟩
  · refine Or.inr ⟨h, ?_⟩
    rw [lk_r33 (by omega)]
    rcases (show k = 118 ∨ k = 119 by omega) with rfl | rfl
    · exact h1
    · exact h2
theorem lk_tup120 {σ : lk_N} {V T : lk_O} {i : Int32} (h1 : σ 1 0 233 = 0) (h2 : σ 1 0 234 = 0) : lk_sm (fun j => if nI j + -9 ≤ i then lk_ms σ V T 1 0 (115 + j) else 0) 120 = lk_tup T i := by
  show lk_sm _ 118 + (if nI 118 + -9 ≤ i then lk_ms σ V T 1 0 233 else 0) + (if nI 119 + -9 ≤ i then lk_ms σ V T 1 0 234 else 0) = _
  rw [lk_r33 (by decide), lk_r33 (by decide), h1, h2, lk_sm_e (g := fun k => if nI k + -9 ≤ i then T 0 k else 0) 118 (fun k hk => by rw [lk_rT rfl hk])]
  simp [lk_tup]
theorem lk_ts0 {T : lk_O} {i : Int32} {k e : Nat} (h : (k < 118 ∧ T 0 k = 0) ∨ 118 ≤ k) : lk_tfi T i (118 - k) k e = lk_tfi T i (118 - (k + 1)) (k + 1) e ∧ lk_ct (fun j => decide (0 < T 0 j)) (min (k + 1) 118) = lk_ct (fun j => decide (0 < T 0 j)) (min k 118) := by
  rcases h with ⟨h, hz⟩ | h
  · constructor
    · conv => lhs; rw [show 118 - k = (118 - (k + 1)) + 1 by omega]; unfold lk_tfi
      rw [if_neg (by rw [hz]; decide)]
    · rw [show min (k + 1) 118 = k + 1 by omega, show min k 118 = k by omega]
      simp [lk_ct, hz]
  · rw [show 118 - k = 0 by omega, show 118 - (k + 1) = 0 by omega, show min (k + 1) 118 = 118 by omega, show min k 118 = 118 by omega]
    exact ⟨rfl, rfl⟩
theorem lk_ts1 {T : lk_O} {i : Int32} {k e : Nat} (h : k < 118) (hz : 0 < T 0 k) : lk_tfi T i (118 - k) k e = (if nI e = i then some k else lk_tfi T i (118 - (k + 1)) (k + 1) (e + 1)) ∧ lk_ct (fun j => decide (0 < T 0 j)) (min (k + 1) 118) = lk_ct (fun j => decide (0 < T 0 j)) (min k 118) + 1 := by
  constructor
  · conv => lhs; rw [show 118 - k = (118 - (k + 1)) + 1 by omega]; unfold lk_tfi
    rw [if_pos hz]
  · rw [show min (k + 1) 118 = k + 1 by omega, show min k 118 = k by omega]
    simp [lk_ct, hz]
theorem lk_nim1 {k : Nat} (h : k < 2147483648) : ¬ nI k = -1 := by
  intro e
  have := congrArg Int32.toInt e
  rw [nI_toInt h, show (-1 : Int32).toInt = -1 from rfl] at this
  omega
theorem lk_pos0 {x : Int32} (h : 0 ≤ x) (h2 : ¬ x = 0) : 0 < x := by
  rcases Int32.lt_or_eq_of_le h with q | q
  · exact q
  · exact absurd q.symm h2
set_option maxHeartbeats 1000000 in
set_option maxRecDepth 100000 in
theorem tX9_tally_bad (l : Launch) (X : lk_G) (d : Nat) (σ : lk_N) (τ : lk_T) (i w : Int32) (h : ¬ (0 ≤ w ∧ w ≤ 2)) : lk_Mt l X mX9_tally (d + 1) [lk_vr 1 0, lk_vi (i), lk_vi (w)] σ τ (fun rr σ1 τ1 => rr = some (lk_vi (-2000000)) ∧ σ1 = σ ∧ τ1 = τ) := by
  refine lk_met (L := [(0, lk_vr 1 0), (1, lk_vi (i)), (2, lk_vi (w))]) (by decide +kernel) (Nat.le_of_ble_eq_true rfl) rfl ?_
  obtain ⟨Q, hQ⟩ : ∃ Q : lk_Q, Q = fun rr σ1 τ1 => rr = some (lk_vi (-2000000)) ∧ σ1 = σ ∧ τ1 = τ := ⟨_, rfl⟩
  rw [← hQ]
  refine lk_iload_n dX9_tally_0 rfl rfl ?_
  refine lk_iconst (v := 0) dX9_tally_1 (by decide) ?_
  refine lk_iconst (v := 2) dX9_tally_2 (by decide) ?_
  refine lk_callS (as := [lk_vi (w), lk_vi 0, lk_vi 2]) (S := []) dX9_tally_3 rfl vX9_within rfl lX9_46 (Nat.le_of_ble_eq_true rfl) (tX9_within l X d σ τ (v := (w)) (a := (0 : Int32)) (b := (2 : Int32)) ) ?_
  refine lk_k3 ?_
  refine lk_cast (pc' := 6) (S' := [lk_vi (if (0 : Int32) ≤ (w) ∧ (w) ≤ (2 : Int32) then 1 else 0)]) rfl rfl rfl ?_
  refine lk_if_neB (tgt := 12) dX9_tally_6 (by decide) (fun hh1 => absurd hh1 h) (fun hh1 => ?_)
  refine lk_ldc dX9_tally_9 kX9_157 ?_
  refine lk_iret .int dX9_tally_11 rfl rfl ?_
  rw [hQ]
  exact ⟨by first | rfl | (simp [*]; done) | (simp_all; done) | grind, by first | rfl | (simp [*]; done), rfl⟩

set_option maxHeartbeats 1000000 in
set_option maxRecDepth 100000 in
theorem tX9_tally_2 (l : Launch) (X : lk_G) (d : Nat) (σ : lk_N) (τ : lk_T) (V T : lk_O) (i : Int32) (h1 : σ 1 0 233 = 0) (h2 : σ 1 0 234 = 0) : lk_Mt l X mX9_tally (d + 1) [lk_vr 1 0, lk_vi (i), lk_vi 2] (lk_ms σ V T) τ (fun rr σ1 τ1 => rr = some (lk_vi (lk_tup T i)) ∧ σ1 = (lk_ms σ V T) ∧ τ1 = τ) := by
  refine lk_met (L := [(0, lk_vr 1 0), (1, lk_vi (i)), (2, lk_vi 2)]) (by decide +kernel) (Nat.le_of_ble_eq_true rfl) rfl ?_
  obtain ⟨Q, hQ⟩ : ∃ Q : lk_Q, Q = fun rr σ1 τ1 => rr = some (lk_vi (lk_tup T i)) ∧ σ1 = (lk_ms σ V T) ∧ τ1 = τ := ⟨_, rfl⟩
  rw [← hQ]
  refine lk_iload_n dX9_tally_0 rfl rfl ?_
  refine lk_iconst (v := 0) dX9_tally_1 (by decide) ?_
  refine lk_iconst (v := 2) dX9_tally_2 (by decide) ?_
  refine lk_callS (as := [lk_vi 2, lk_vi 0, lk_vi 2]) (S := []) dX9_tally_3 rfl vX9_within rfl lX9_46 (Nat.le_of_ble_eq_true rfl) (tX9_within l X d (lk_ms σ V T) τ (v := (2 : Int32)) (a := (0 : Int32)) (b := (2 : Int32)) ) ?_
  refine lk_k3 ?_
  refine lk_cast (pc' := 6) (S' := [lk_vi (if (0 : Int32) ≤ (2 : Int32) ∧ (2 : Int32) ≤ (2 : Int32) then 1 else 0)]) rfl rfl rfl ?_
  refine lk_if_neB (tgt := 12) dX9_tally_6 (by decide) (fun hh1 => ?_) (fun hh1 => absurd hh1 (fun q => q (by decide)))
  refine lk_iconst (v := 0) dX9_tally_12 (by decide) ?_
  refine lk_istore_n (L' := [(0, lk_vr 1 0), (1, lk_vi (i)), (2, lk_vi 2), (3, lk_vi 0)]) dX9_tally_13 rfl (by decide +kernel) rfl ?_
  refine lk_iconst (v := 0) dX9_tally_14 (by decide) ?_
  refine lk_istore (L' := [(0, lk_vr 1 0), (1, lk_vi (i)), (2, lk_vi 2), (3, lk_vi 0), (4, lk_vi 0)]) dX9_tally_15 (by decide +kernel) rfl ?_
  refine lk_iconst (v := 0) dX9_tally_17 (by decide) ?_
  refine lk_istore (L' := [(0, lk_vr 1 0), (1, lk_vi (i)), (2, lk_vi 2), (3, lk_vi 0), (4, lk_vi 0), (5, lk_vi 0)]) dX9_tally_18 (by decide +kernel) rfl ?_
  have LP20 : ∀ (fu : Nat) (k e : Nat) (y : Int32), k ≤ 120 → y = lk_sm (fun j => if nI j + -9 ≤ i then lk_ms σ V T 1 0 (115 + j) else 0) k → 120 - k < fu → lk_W l X mX9_tally (d + 1) 20 [(0, lk_vr 1 0), (1, lk_vi (i)), (2, lk_vi 2), (3, lk_vi (nI (e))), (4, lk_vi (y)), (5, lk_vi (nI (k)))] [] (lk_ms σ V T) τ Q := by
    intro fu
    induction fu with
    | zero => intro k e y hk hy hfu; exact absurd hfu (by omega)
    | succ fu ih =>
      intro k e y hk hy hfu
      refine lk_iload dX9_tally_20 rfl ?_
      refine lk_bipush (v := 120) dX9_tally_22 (by decide) ?_
      refine lk_icmp_geN (a := k) (b := 120) (tgt := 109) dX9_tally_24 (by decide) (by omega) (by omega) (fun hh2 => ?_) (fun hh2 => ?_)
      ·
        refine lk_iload_n dX9_tally_109 rfl rfl ?_
        refine lk_iconst (v := 2) dX9_tally_110 (by decide) ?_
        refine lk_icmp_neN (a := 2) (b := 2) (tgt := 119) dX9_tally_111 (by decide) (by omega) (by omega) (fun hh3 => absurd hh3 (fun q => q rfl)) (fun hh3 => ?_)
        refine lk_iload dX9_tally_114 rfl ?_
        refine lk_goto (tgt := 130) dX9_tally_116 (by decide) ?_
        refine lk_iret .int dX9_tally_130 rfl rfl ?_
        rw [hQ]
        have hk0 : k = 120 := by omega
        subst hk0
        rw [hy, lk_tup120 h1 h2]
        exact ⟨rfl, rfl, rfl⟩
      ·
        refine lk_aload_n dX9_tally_27 rfl rfl ?_
        refine lk_getR (f := 0) dX9_tally_28 rfl fX9_9 (by decide) (by decide) ?_
        refine lk_bipush (v := 115) dX9_tally_31 (by decide) ?_
        refine lk_iload dX9_tally_33 rfl ?_
        refine lk_iaddN (a := 115) (b := k) dX9_tally_35 ?_
        refine lk_ialdN (f := 0) (i := 115 + k) dX9_tally_36 rfl (by decide) rfl (by omega) (by decide) ?_
        refine lk_if_ne (tgt := 43) dX9_tally_37 (by decide) (fun hh4 => ?_) (fun hh4 => ?_)
        ·
          refine lk_iload dX9_tally_43 rfl ?_
          refine lk_bipush (v := 9) dX9_tally_45 (by decide) ?_
          refine lk_isub dX9_tally_47 ?_
          refine lk_iload_n dX9_tally_48 rfl rfl ?_
          refine lk_icmp_gt (tgt := 67) dX9_tally_49 (by decide) (fun hh5 => ?_) (fun hh5 => ?_)
          ·
            refine lk_iload_n dX9_tally_67 rfl rfl ?_
            refine lk_iconst (v := 2) dX9_tally_68 (by decide) ?_
            refine lk_icmp_geN (a := 2) (b := 2) (tgt := 100) dX9_tally_69 (by decide) (by omega) (by omega) (fun hh6 => ?_) (fun hh6 => absurd hh6 (by decide))
            refine lk_iincN (a := e) (m := 1) (L' := [(0, lk_vr 1 0), (1, lk_vi (i)), (2, lk_vi 2), (3, lk_vi (nI (e + 1))), (4, lk_vi (y)), (5, lk_vi (nI (k)))]) dX9_tally_100 rfl rfl (by decide +kernel) rfl ?_
            refine lk_iincN (a := k) (m := 1) (L' := [(0, lk_vr 1 0), (1, lk_vi (i)), (2, lk_vi 2), (3, lk_vi (nI (e + 1))), (4, lk_vi (y)), (5, lk_vi (nI (k + 1)))]) dX9_tally_103 rfl rfl (by decide +kernel) rfl ?_
            refine lk_goto (tgt := 20) dX9_tally_106 (by decide) ?_
            refine ih (k + 1) (e + 1) _ (by omega) ?_ (by omega)
            simp only [lk_sm]
            first | (rw [hy, show lk_ms σ V T 1 0 (115 + k) = 0 by assumption]; simp; done) | (rw [hy, if_neg (by rw [← Int32.sub_eq_add_neg]; exact Int32.not_le.mpr (by assumption))]; simp; done) | (rw [hy, if_pos (by rw [← Int32.sub_eq_add_neg]; exact Int32.not_lt.mp (by assumption))])
          ·
            refine lk_iload dX9_tally_52 rfl ?_
            refine lk_aload_n dX9_tally_54 rfl rfl ?_
            refine lk_getR (f := 0) dX9_tally_55 rfl fX9_9 (by decide) (by decide) ?_
            refine lk_bipush (v := 115) dX9_tally_58 (by decide) ?_
            refine lk_iload dX9_tally_60 rfl ?_
            refine lk_iaddN (a := 115) (b := k) dX9_tally_62 ?_
            refine lk_ialdN (f := 0) (i := 115 + k) dX9_tally_63 rfl (by decide) rfl (by omega) (by decide) ?_
            refine lk_iadd dX9_tally_64 ?_
            refine lk_istore (L' := [(0, lk_vr 1 0), (1, lk_vi (i)), (2, lk_vi 2), (3, lk_vi (nI (e))), (4, lk_vi ((y) + ((lk_ms σ V T) 1 0 (115 + k)))), (5, lk_vi (nI (k)))]) dX9_tally_65 (by decide +kernel) rfl ?_
            refine lk_iload_n dX9_tally_67 rfl rfl ?_
            refine lk_iconst (v := 2) dX9_tally_68 (by decide) ?_
            refine lk_icmp_geN (a := 2) (b := 2) (tgt := 100) dX9_tally_69 (by decide) (by omega) (by omega) (fun hh7 => ?_) (fun hh7 => absurd hh7 (by decide))
            refine lk_iincN (a := e) (m := 1) (L' := [(0, lk_vr 1 0), (1, lk_vi (i)), (2, lk_vi 2), (3, lk_vi (nI (e + 1))), (4, lk_vi ((y) + ((lk_ms σ V T) 1 0 (115 + k)))), (5, lk_vi (nI (k)))]) dX9_tally_100 rfl rfl (by decide +kernel) rfl ?_
            refine lk_iincN (a := k) (m := 1) (L' := [(0, lk_vr 1 0), (1, lk_vi (i)), (2, lk_vi 2), (3, lk_vi (nI (e + 1))), (4, lk_vi ((y) + ((lk_ms σ V T) 1 0 (115 + k)))), (5, lk_vi (nI (k + 1)))]) dX9_tally_103 rfl rfl (by decide +kernel) rfl ?_
            refine lk_goto (tgt := 20) dX9_tally_106 (by decide) ?_
            refine ih (k + 1) (e + 1) _ (by omega) ?_ (by omega)
            simp only [lk_sm]
            first | (rw [hy, show lk_ms σ V T 1 0 (115 + k) = 0 by assumption]; simp; done) | (rw [hy, if_neg (by rw [← Int32.sub_eq_add_neg]; exact Int32.not_le.mpr (by assumption))]; simp; done) | (rw [hy, if_pos (by rw [← Int32.sub_eq_add_neg]; exact Int32.not_lt.mp (by assumption))])
        ·
          refine lk_goto (tgt := 103) dX9_tally_40 (by decide) ?_
          refine lk_iincN (a := k) (m := 1) (L' := [(0, lk_vr 1 0), (1, lk_vi (i)), (2, lk_vi 2), (3, lk_vi (nI (e))), (4, lk_vi (y)), (5, lk_vi (nI (k + 1)))]) dX9_tally_103 rfl rfl (by decide +kernel) rfl ?_
          refine lk_goto (tgt := 20) dX9_tally_106 (by decide) ?_
          refine ih (k + 1) (e) _ (by omega) ?_ (by omega)
          simp only [lk_sm]
          first | (rw [hy, show lk_ms σ V T 1 0 (115 + k) = 0 by assumption]; simp; done) | (rw [hy, if_neg (by rw [← Int32.sub_eq_add_neg]; exact Int32.not_le.mpr (by assumption))]; simp; done) | (rw [hy, if_pos (by rw [← Int32.sub_eq_add_neg]; exact Int32.not_lt.mp (by assumption))])
  exact LP20 121 0 0 _ (by omega) rfl (by omega)

set_option maxHeartbeats 1000000 in
set_option maxRecDepth 100000 in
theorem tX9_tally_0 (l : Launch) (X : lk_G) (d : Nat) (σ : lk_N) (τ : lk_T) (V T : lk_O) (i : Int32) (h1 : σ 1 0 233 = 0) (h2 : σ 1 0 234 = 0) (hT : ∀ k, k < 118 → 0 ≤ T 0 k) : lk_Mt l X mX9_tally (d + 1) [lk_vr 1 0, lk_vi (i), lk_vi 0] (lk_ms σ V T) τ (fun rr σ1 τ1 => rr = some (lk_vi (if i = -1 then nI (lk_ct (fun j => decide (0 < T 0 j)) 118) else lk_trw T i 0)) ∧ σ1 = (lk_ms σ V T) ∧ τ1 = τ) := by
  refine lk_met (L := [(0, lk_vr 1 0), (1, lk_vi (i)), (2, lk_vi 0)]) (by decide +kernel) (Nat.le_of_ble_eq_true rfl) rfl ?_
  obtain ⟨Q, hQ⟩ : ∃ Q : lk_Q, Q = fun rr σ1 τ1 => rr = some (lk_vi (if i = -1 then nI (lk_ct (fun j => decide (0 < T 0 j)) 118) else lk_trw T i 0)) ∧ σ1 = (lk_ms σ V T) ∧ τ1 = τ := ⟨_, rfl⟩
  rw [← hQ]
  obtain ⟨R, hR⟩ : ∃ R, R = lk_tfi T i 118 0 0 := ⟨_, rfl⟩
  refine lk_iload_n dX9_tally_0 rfl rfl ?_
  refine lk_iconst (v := 0) dX9_tally_1 (by decide) ?_
  refine lk_iconst (v := 2) dX9_tally_2 (by decide) ?_
  refine lk_callS (as := [lk_vi 0, lk_vi 0, lk_vi 2]) (S := []) dX9_tally_3 rfl vX9_within rfl lX9_46 (Nat.le_of_ble_eq_true rfl) (tX9_within l X d (lk_ms σ V T) τ (v := (0 : Int32)) (a := (0 : Int32)) (b := (2 : Int32)) ) ?_
  refine lk_k3 ?_
  refine lk_cast (pc' := 6) (S' := [lk_vi (if (0 : Int32) ≤ (0 : Int32) ∧ (0 : Int32) ≤ (2 : Int32) then 1 else 0)]) rfl rfl rfl ?_
  refine lk_if_neB (tgt := 12) dX9_tally_6 (by decide) (fun hh1 => ?_) (fun hh1 => absurd hh1 (fun q => q (by decide)))
  refine lk_iconst (v := 0) dX9_tally_12 (by decide) ?_
  refine lk_istore_n (L' := [(0, lk_vr 1 0), (1, lk_vi (i)), (2, lk_vi 0), (3, lk_vi 0)]) dX9_tally_13 rfl (by decide +kernel) rfl ?_
  refine lk_iconst (v := 0) dX9_tally_14 (by decide) ?_
  refine lk_istore (L' := [(0, lk_vr 1 0), (1, lk_vi (i)), (2, lk_vi 0), (3, lk_vi 0), (4, lk_vi 0)]) dX9_tally_15 (by decide +kernel) rfl ?_
  refine lk_iconst (v := 0) dX9_tally_17 (by decide) ?_
  refine lk_istore (L' := [(0, lk_vr 1 0), (1, lk_vi (i)), (2, lk_vi 0), (3, lk_vi 0), (4, lk_vi 0), (5, lk_vi 0)]) dX9_tally_18 (by decide +kernel) rfl ?_
  have LP20 : ∀ (fu : Nat) (k e : Nat) (y : Int32), k ≤ 120 → R = lk_tfi T i (118 - k) k e → e = lk_ct (fun j => decide (0 < T 0 j)) (min k 118) → 120 - k < fu → lk_W l X mX9_tally (d + 1) 20 [(0, lk_vr 1 0), (1, lk_vi (i)), (2, lk_vi 0), (3, lk_vi (nI (e))), (4, lk_vi (y)), (5, lk_vi (nI (k)))] [] (lk_ms σ V T) τ Q := by
    intro fu
    induction fu with
    | zero => intro k e y hk hI hc hfu; exact absurd hfu (by omega)
    | succ fu ih =>
      intro k e y hk hI hc hfu
      refine lk_iload dX9_tally_20 rfl ?_
      refine lk_bipush (v := 120) dX9_tally_22 (by decide) ?_
      refine lk_icmp_geN (a := k) (b := 120) (tgt := 109) dX9_tally_24 (by decide) (by omega) (by omega) (fun hh2 => ?_) (fun hh2 => ?_)
      ·
        refine lk_iload_n dX9_tally_109 rfl rfl ?_
        refine lk_iconst (v := 2) dX9_tally_110 (by decide) ?_
        refine lk_icmp_neN (a := 0) (b := 2) (tgt := 119) dX9_tally_111 (by decide) (by omega) (by omega) (fun hh3 => ?_) (fun hh3 => absurd hh3 (by decide))
        refine lk_iload_n dX9_tally_119 rfl rfl ?_
        refine lk_iconst (v := (-1)) dX9_tally_120 (by decide) ?_
        refine lk_icmp_ne (tgt := 128) dX9_tally_121 (by decide) (fun hh4 => ?_) (fun hh4 => ?_)
        ·
          refine lk_ldc dX9_tally_128 kX9_158 ?_
          refine lk_iret .int dX9_tally_130 rfl rfl ?_
          rw [hQ]
          have hk0 : k = 120 := by omega
          subst hk0
          rw [if_neg (by assumption)]
          unfold lk_trw
          rw [← hR, hI]
          exact ⟨rfl, rfl, rfl⟩
        ·
          refine lk_iload_n dX9_tally_124 rfl rfl ?_
          refine lk_goto (tgt := 130) dX9_tally_125 (by decide) ?_
          refine lk_iret .int dX9_tally_130 rfl rfl ?_
          rw [hQ]
          have hk0 : k = 120 := by omega
          subst hk0
          rw [if_pos (by assumption), hc]
          exact ⟨rfl, rfl, rfl⟩
      ·
        refine lk_aload_n dX9_tally_27 rfl rfl ?_
        refine lk_getR (f := 0) dX9_tally_28 rfl fX9_9 (by decide) (by decide) ?_
        refine lk_bipush (v := 115) dX9_tally_31 (by decide) ?_
        refine lk_iload dX9_tally_33 rfl ?_
        refine lk_iaddN (a := 115) (b := k) dX9_tally_35 ?_
        refine lk_ialdN (f := 0) (i := 115 + k) dX9_tally_36 rfl (by decide) rfl (by omega) (by decide) ?_
        refine lk_if_ne (tgt := 43) dX9_tally_37 (by decide) (fun hh5 => ?_) (fun hh5 => ?_)
        ·
          refine lk_iload dX9_tally_43 rfl ?_
          refine lk_bipush (v := 9) dX9_tally_45 (by decide) ?_
          refine lk_isub dX9_tally_47 ?_
          refine lk_iload_n dX9_tally_48 rfl rfl ?_
          refine lk_icmp_gt (tgt := 67) dX9_tally_49 (by decide) (fun hh6 => ?_) (fun hh6 => ?_)
          ·
            refine lk_iload_n dX9_tally_67 rfl rfl ?_
            refine lk_iconst (v := 2) dX9_tally_68 (by decide) ?_
            refine lk_icmp_geN (a := 0) (b := 2) (tgt := 100) dX9_tally_69 (by decide) (by omega) (by omega) (fun hh7 => absurd hh7 (by decide)) (fun hh7 => ?_)
            refine lk_iload_n dX9_tally_72 rfl rfl ?_
            refine lk_iload_n dX9_tally_73 rfl rfl ?_
            refine lk_icmp_ne (tgt := 100) dX9_tally_74 (by decide) (fun hh8 => ?_) (fun hh8 => ?_)
            ·
              refine lk_iincN (a := e) (m := 1) (L' := [(0, lk_vr 1 0), (1, lk_vi (i)), (2, lk_vi 0), (3, lk_vi (nI (e + 1))), (4, lk_vi (y)), (5, lk_vi (nI (k)))]) dX9_tally_100 rfl rfl (by decide +kernel) rfl ?_
              refine lk_iincN (a := k) (m := 1) (L' := [(0, lk_vr 1 0), (1, lk_vi (i)), (2, lk_vi 0), (3, lk_vi (nI (e + 1))), (4, lk_vi (y)), (5, lk_vi (nI (k + 1)))]) dX9_tally_103 rfl rfl (by decide +kernel) rfl ?_
              refine lk_goto (tgt := 20) dX9_tally_106 (by decide) ?_
              have hg := lk_g120 (V := V) (T := T) h1 h2 (show k < 120 by omega)
              rcases hg with ⟨a, b⟩ | ⟨a, b⟩
              · have hz : 0 < T 0 k := lk_pos0 (hT k a) (by rw [← b]; assumption)
                rw [(lk_ts1 a hz).1, if_neg (by assumption)] at hI
                exact ih (k + 1) (e + 1) ((y)) (by omega) hI (by rw [(lk_ts1 (i := i) (e := e) a hz).2, hc]) (by omega)
              · exact absurd b (by assumption)
            ·
              refine lk_iload_n dX9_tally_77 rfl rfl ?_
              refine lk_if_ne (tgt := 89) dX9_tally_78 (by decide) (fun hh9 => absurd hh9 (by decide)) (fun hh9 => ?_)
              refine lk_iload dX9_tally_81 rfl ?_
              refine lk_bipush (v := 9) dX9_tally_83 (by decide) ?_
              refine lk_isub dX9_tally_85 ?_
              refine lk_goto (tgt := 99) dX9_tally_86 (by decide) ?_
              refine lk_iret .int dX9_tally_99 rfl rfl ?_
              rw [hQ]
              have hg := lk_g120 (V := V) (T := T) h1 h2 (show k < 120 by omega)
              rcases hg with ⟨a, b⟩ | ⟨a, b⟩
              · have hz : 0 < T 0 k := lk_pos0 (hT k a) (by rw [← b]; assumption)
                have hi : nI e = i := by first | assumption | exact Decidable.not_not.mp (by assumption)
                rw [(lk_ts1 a hz).1, if_pos hi] at hI
                have he : e ≤ 118 := by rw [hc]; exact Nat.le_trans (lk_ct_m _) (by omega)
                rw [if_neg (by rw [← hi]; exact lk_nim1 (by omega))]
                unfold lk_trw
                rw [← hR, hI]
                refine ⟨?_, rfl, rfl⟩
                show some (lk_vi (nI k - 9)) = some (lk_vi (nI k + -9))
                rw [Int32.sub_eq_add_neg]
              · exact absurd b (by assumption)
          ·
            refine lk_iload dX9_tally_52 rfl ?_
            refine lk_aload_n dX9_tally_54 rfl rfl ?_
            refine lk_getR (f := 0) dX9_tally_55 rfl fX9_9 (by decide) (by decide) ?_
            refine lk_bipush (v := 115) dX9_tally_58 (by decide) ?_
            refine lk_iload dX9_tally_60 rfl ?_
            refine lk_iaddN (a := 115) (b := k) dX9_tally_62 ?_
            refine lk_ialdN (f := 0) (i := 115 + k) dX9_tally_63 rfl (by decide) rfl (by omega) (by decide) ?_
            refine lk_iadd dX9_tally_64 ?_
            refine lk_istore (L' := [(0, lk_vr 1 0), (1, lk_vi (i)), (2, lk_vi 0), (3, lk_vi (nI (e))), (4, lk_vi ((y) + ((lk_ms σ V T) 1 0 (115 + k)))), (5, lk_vi (nI (k)))]) dX9_tally_65 (by decide +kernel) rfl ?_
            refine lk_iload_n dX9_tally_67 rfl rfl ?_
            refine lk_iconst (v := 2) dX9_tally_68 (by decide) ?_
            refine lk_icmp_geN (a := 0) (b := 2) (tgt := 100) dX9_tally_69 (by decide) (by omega) (by omega) (fun hh10 => absurd hh10 (by decide)) (fun hh10 => ?_)
            refine lk_iload_n dX9_tally_72 rfl rfl ?_
            refine lk_iload_n dX9_tally_73 rfl rfl ?_
            refine lk_icmp_ne (tgt := 100) dX9_tally_74 (by decide) (fun hh11 => ?_) (fun hh11 => ?_)
            ·
              refine lk_iincN (a := e) (m := 1) (L' := [(0, lk_vr 1 0), (1, lk_vi (i)), (2, lk_vi 0), (3, lk_vi (nI (e + 1))), (4, lk_vi ((y) + ((lk_ms σ V T) 1 0 (115 + k)))), (5, lk_vi (nI (k)))]) dX9_tally_100 rfl rfl (by decide +kernel) rfl ?_
              refine lk_iincN (a := k) (m := 1) (L' := [(0, lk_vr 1 0), (1, lk_vi (i)), (2, lk_vi 0), (3, lk_vi (nI (e + 1))), (4, lk_vi ((y) + ((lk_ms σ V T) 1 0 (115 + k)))), (5, lk_vi (nI (k + 1)))]) dX9_tally_103 rfl rfl (by decide +kernel) rfl ?_
              refine lk_goto (tgt := 20) dX9_tally_106 (by decide) ?_
              have hg := lk_g120 (V := V) (T := T) h1 h2 (show k < 120 by omega)
              rcases hg with ⟨a, b⟩ | ⟨a, b⟩
              · have hz : 0 < T 0 k := lk_pos0 (hT k a) (by rw [← b]; assumption)
                rw [(lk_ts1 a hz).1, if_neg (by assumption)] at hI
                exact ih (k + 1) (e + 1) (((y) + ((lk_ms σ V T) 1 0 (115 + k)))) (by omega) hI (by rw [(lk_ts1 (i := i) (e := e) a hz).2, hc]) (by omega)
              · exact absurd b (by assumption)
            ·
              refine lk_iload_n dX9_tally_77 rfl rfl ?_
              refine lk_if_ne (tgt := 89) dX9_tally_78 (by decide) (fun hh12 => absurd hh12 (by decide)) (fun hh12 => ?_)
              refine lk_iload dX9_tally_81 rfl ?_
              refine lk_bipush (v := 9) dX9_tally_83 (by decide) ?_
              refine lk_isub dX9_tally_85 ?_
              refine lk_goto (tgt := 99) dX9_tally_86 (by decide) ?_
              refine lk_iret .int dX9_tally_99 rfl rfl ?_
              rw [hQ]
              have hg := lk_g120 (V := V) (T := T) h1 h2 (show k < 120 by omega)
              rcases hg with ⟨a, b⟩ | ⟨a, b⟩
              · have hz : 0 < T 0 k := lk_pos0 (hT k a) (by rw [← b]; assumption)
                have hi : nI e = i := by first | assumption | exact Decidable.not_not.mp (by assumption)
                rw [(lk_ts1 a hz).1, if_pos hi] at hI
                have he : e ≤ 118 := by rw [hc]; exact Nat.le_trans (lk_ct_m _) (by omega)
                rw [if_neg (by rw [← hi]; exact lk_nim1 (by omega))]
                unfold lk_trw
                rw [← hR, hI]
                refine ⟨?_, rfl, rfl⟩
                show some (lk_vi (nI k - 9)) = some (lk_vi (nI k + -9))
                rw [Int32.sub_eq_add_neg]
              · exact absurd b (by assumption)
        ·
          refine lk_goto (tgt := 103) dX9_tally_40 (by decide) ?_
          refine lk_iincN (a := k) (m := 1) (L' := [(0, lk_vr 1 0), (1, lk_vi (i)), (2, lk_vi 0), (3, lk_vi (nI (e))), (4, lk_vi (y)), (5, lk_vi (nI (k + 1)))]) dX9_tally_103 rfl rfl (by decide +kernel) rfl ?_
          refine lk_goto (tgt := 20) dX9_tally_106 (by decide) ?_
          have hg := lk_g120 (V := V) (T := T) h1 h2 (show k < 120 by omega)
          have hz : (k < 118 ∧ T 0 k = 0) ∨ 118 ≤ k := by
            rcases hg with ⟨a, b⟩ | ⟨a, b⟩
            · exact Or.inl ⟨a, by rw [← b]; assumption⟩
            · exact Or.inr a
          rw [(lk_ts0 hz).1] at hI
          exact ih (k + 1) e ((y)) (by omega) hI (by rw [(lk_ts0 (i := i) (e := e) hz).2]; exact hc) (by omega)
  exact LP20 121 0 0 _ (by omega) hR rfl (by omega)

set_option maxHeartbeats 1000000 in
set_option maxRecDepth 100000 in
theorem tX9_tally_1 (l : Launch) (X : lk_G) (d : Nat) (σ : lk_N) (τ : lk_T) (V T : lk_O) (i : Int32) (h1 : σ 1 0 233 = 0) (h2 : σ 1 0 234 = 0) (hT : ∀ k, k < 118 → 0 ≤ T 0 k) : lk_Mt l X mX9_tally (d + 1) [lk_vr 1 0, lk_vi (i), lk_vi 1] (lk_ms σ V T) τ (fun rr σ1 τ1 => rr = some (lk_vi (if i = -1 then nI (lk_ct (fun j => decide (0 < T 0 j)) 118) else lk_trw T i 1)) ∧ σ1 = (lk_ms σ V T) ∧ τ1 = τ) := by
  refine lk_met (L := [(0, lk_vr 1 0), (1, lk_vi (i)), (2, lk_vi 1)]) (by decide +kernel) (Nat.le_of_ble_eq_true rfl) rfl ?_
  obtain ⟨Q, hQ⟩ : ∃ Q : lk_Q, Q = fun rr σ1 τ1 => rr = some (lk_vi (if i = -1 then nI (lk_ct (fun j => decide (0 < T 0 j)) 118) else lk_trw T i 1)) ∧ σ1 = (lk_ms σ V T) ∧ τ1 = τ := ⟨_, rfl⟩
  rw [← hQ]
  obtain ⟨R, hR⟩ : ∃ R, R = lk_tfi T i 118 0 0 := ⟨_, rfl⟩
  refine lk_iload_n dX9_tally_0 rfl rfl ?_
  refine lk_iconst (v := 0) dX9_tally_1 (by decide) ?_
  refine lk_iconst (v := 2) dX9_tally_2 (by decide) ?_
  refine lk_callS (as := [lk_vi 1, lk_vi 0, lk_vi 2]) (S := []) dX9_tally_3 rfl vX9_within rfl lX9_46 (Nat.le_of_ble_eq_true rfl) (tX9_within l X d (lk_ms σ V T) τ (v := (1 : Int32)) (a := (0 : Int32)) (b := (2 : Int32)) ) ?_
  refine lk_k3 ?_
  refine lk_cast (pc' := 6) (S' := [lk_vi (if (0 : Int32) ≤ (1 : Int32) ∧ (1 : Int32) ≤ (2 : Int32) then 1 else 0)]) rfl rfl rfl ?_
  refine lk_if_neB (tgt := 12) dX9_tally_6 (by decide) (fun hh1 => ?_) (fun hh1 => absurd hh1 (fun q => q (by decide)))
  refine lk_iconst (v := 0) dX9_tally_12 (by decide) ?_
  refine lk_istore_n (L' := [(0, lk_vr 1 0), (1, lk_vi (i)), (2, lk_vi 1), (3, lk_vi 0)]) dX9_tally_13 rfl (by decide +kernel) rfl ?_
  refine lk_iconst (v := 0) dX9_tally_14 (by decide) ?_
  refine lk_istore (L' := [(0, lk_vr 1 0), (1, lk_vi (i)), (2, lk_vi 1), (3, lk_vi 0), (4, lk_vi 0)]) dX9_tally_15 (by decide +kernel) rfl ?_
  refine lk_iconst (v := 0) dX9_tally_17 (by decide) ?_
  refine lk_istore (L' := [(0, lk_vr 1 0), (1, lk_vi (i)), (2, lk_vi 1), (3, lk_vi 0), (4, lk_vi 0), (5, lk_vi 0)]) dX9_tally_18 (by decide +kernel) rfl ?_
  have LP20 : ∀ (fu : Nat) (k e : Nat) (y : Int32), k ≤ 120 → R = lk_tfi T i (118 - k) k e → e = lk_ct (fun j => decide (0 < T 0 j)) (min k 118) → 120 - k < fu → lk_W l X mX9_tally (d + 1) 20 [(0, lk_vr 1 0), (1, lk_vi (i)), (2, lk_vi 1), (3, lk_vi (nI (e))), (4, lk_vi (y)), (5, lk_vi (nI (k)))] [] (lk_ms σ V T) τ Q := by
    intro fu
    induction fu with
    | zero => intro k e y hk hI hc hfu; exact absurd hfu (by omega)
    | succ fu ih =>
      intro k e y hk hI hc hfu
      refine lk_iload dX9_tally_20 rfl ?_
      refine lk_bipush (v := 120) dX9_tally_22 (by decide) ?_
      refine lk_icmp_geN (a := k) (b := 120) (tgt := 109) dX9_tally_24 (by decide) (by omega) (by omega) (fun hh2 => ?_) (fun hh2 => ?_)
      ·
        refine lk_iload_n dX9_tally_109 rfl rfl ?_
        refine lk_iconst (v := 2) dX9_tally_110 (by decide) ?_
        refine lk_icmp_neN (a := 1) (b := 2) (tgt := 119) dX9_tally_111 (by decide) (by omega) (by omega) (fun hh3 => ?_) (fun hh3 => absurd hh3 (by decide))
        refine lk_iload_n dX9_tally_119 rfl rfl ?_
        refine lk_iconst (v := (-1)) dX9_tally_120 (by decide) ?_
        refine lk_icmp_ne (tgt := 128) dX9_tally_121 (by decide) (fun hh4 => ?_) (fun hh4 => ?_)
        ·
          refine lk_ldc dX9_tally_128 kX9_158 ?_
          refine lk_iret .int dX9_tally_130 rfl rfl ?_
          rw [hQ]
          have hk0 : k = 120 := by omega
          subst hk0
          rw [if_neg (by assumption)]
          unfold lk_trw
          rw [← hR, hI]
          exact ⟨rfl, rfl, rfl⟩
        ·
          refine lk_iload_n dX9_tally_124 rfl rfl ?_
          refine lk_goto (tgt := 130) dX9_tally_125 (by decide) ?_
          refine lk_iret .int dX9_tally_130 rfl rfl ?_
          rw [hQ]
          have hk0 : k = 120 := by omega
          subst hk0
          rw [if_pos (by assumption), hc]
          exact ⟨rfl, rfl, rfl⟩
      ·
        refine lk_aload_n dX9_tally_27 rfl rfl ?_
        refine lk_getR (f := 0) dX9_tally_28 rfl fX9_9 (by decide) (by decide) ?_
        refine lk_bipush (v := 115) dX9_tally_31 (by decide) ?_
        refine lk_iload dX9_tally_33 rfl ?_
        refine lk_iaddN (a := 115) (b := k) dX9_tally_35 ?_
        refine lk_ialdN (f := 0) (i := 115 + k) dX9_tally_36 rfl (by decide) rfl (by omega) (by decide) ?_
        refine lk_if_ne (tgt := 43) dX9_tally_37 (by decide) (fun hh5 => ?_) (fun hh5 => ?_)
        ·
          refine lk_iload dX9_tally_43 rfl ?_
          refine lk_bipush (v := 9) dX9_tally_45 (by decide) ?_
          refine lk_isub dX9_tally_47 ?_
          refine lk_iload_n dX9_tally_48 rfl rfl ?_
          refine lk_icmp_gt (tgt := 67) dX9_tally_49 (by decide) (fun hh6 => ?_) (fun hh6 => ?_)
          ·
            refine lk_iload_n dX9_tally_67 rfl rfl ?_
            refine lk_iconst (v := 2) dX9_tally_68 (by decide) ?_
            refine lk_icmp_geN (a := 1) (b := 2) (tgt := 100) dX9_tally_69 (by decide) (by omega) (by omega) (fun hh7 => absurd hh7 (by decide)) (fun hh7 => ?_)
            refine lk_iload_n dX9_tally_72 rfl rfl ?_
            refine lk_iload_n dX9_tally_73 rfl rfl ?_
            refine lk_icmp_ne (tgt := 100) dX9_tally_74 (by decide) (fun hh8 => ?_) (fun hh8 => ?_)
            ·
              refine lk_iincN (a := e) (m := 1) (L' := [(0, lk_vr 1 0), (1, lk_vi (i)), (2, lk_vi 1), (3, lk_vi (nI (e + 1))), (4, lk_vi (y)), (5, lk_vi (nI (k)))]) dX9_tally_100 rfl rfl (by decide +kernel) rfl ?_
              refine lk_iincN (a := k) (m := 1) (L' := [(0, lk_vr 1 0), (1, lk_vi (i)), (2, lk_vi 1), (3, lk_vi (nI (e + 1))), (4, lk_vi (y)), (5, lk_vi (nI (k + 1)))]) dX9_tally_103 rfl rfl (by decide +kernel) rfl ?_
              refine lk_goto (tgt := 20) dX9_tally_106 (by decide) ?_
              have hg := lk_g120 (V := V) (T := T) h1 h2 (show k < 120 by omega)
              rcases hg with ⟨a, b⟩ | ⟨a, b⟩
              · have hz : 0 < T 0 k := lk_pos0 (hT k a) (by rw [← b]; assumption)
                rw [(lk_ts1 a hz).1, if_neg (by assumption)] at hI
                exact ih (k + 1) (e + 1) ((y)) (by omega) hI (by rw [(lk_ts1 (i := i) (e := e) a hz).2, hc]) (by omega)
              · exact absurd b (by assumption)
            ·
              refine lk_iload_n dX9_tally_77 rfl rfl ?_
              refine lk_if_ne (tgt := 89) dX9_tally_78 (by decide) (fun hh9 => ?_) (fun hh9 => absurd hh9 (by decide))
              refine lk_aload_n dX9_tally_89 rfl rfl ?_
              refine lk_getR (f := 0) dX9_tally_90 rfl fX9_9 (by decide) (by decide) ?_
              refine lk_bipush (v := 115) dX9_tally_93 (by decide) ?_
              refine lk_iload dX9_tally_95 rfl ?_
              refine lk_iaddN (a := 115) (b := k) dX9_tally_97 ?_
              refine lk_ialdN (f := 0) (i := 115 + k) dX9_tally_98 rfl (by decide) rfl (by omega) (by decide) ?_
              refine lk_iret .int dX9_tally_99 rfl rfl ?_
              rw [hQ]
              have hg := lk_g120 (V := V) (T := T) h1 h2 (show k < 120 by omega)
              rcases hg with ⟨a, b⟩ | ⟨a, b⟩
              · have hz : 0 < T 0 k := lk_pos0 (hT k a) (by rw [← b]; assumption)
                have hi : nI e = i := by first | assumption | exact Decidable.not_not.mp (by assumption)
                rw [(lk_ts1 a hz).1, if_pos hi] at hI
                have he : e ≤ 118 := by rw [hc]; exact Nat.le_trans (lk_ct_m _) (by omega)
                rw [if_neg (by rw [← hi]; exact lk_nim1 (by omega))]
                unfold lk_trw
                rw [← hR, hI]
                refine ⟨?_, rfl, rfl⟩
                rw [b]; rfl
              · exact absurd b (by assumption)
          ·
            refine lk_iload dX9_tally_52 rfl ?_
            refine lk_aload_n dX9_tally_54 rfl rfl ?_
            refine lk_getR (f := 0) dX9_tally_55 rfl fX9_9 (by decide) (by decide) ?_
            refine lk_bipush (v := 115) dX9_tally_58 (by decide) ?_
            refine lk_iload dX9_tally_60 rfl ?_
            refine lk_iaddN (a := 115) (b := k) dX9_tally_62 ?_
            refine lk_ialdN (f := 0) (i := 115 + k) dX9_tally_63 rfl (by decide) rfl (by omega) (by decide) ?_
            refine lk_iadd dX9_tally_64 ?_
            refine lk_istore (L' := [(0, lk_vr 1 0), (1, lk_vi (i)), (2, lk_vi 1), (3, lk_vi (nI (e))), (4, lk_vi ((y) + ((lk_ms σ V T) 1 0 (115 + k)))), (5, lk_vi (nI (k)))]) dX9_tally_65 (by decide +kernel) rfl ?_
            refine lk_iload_n dX9_tally_67 rfl rfl ?_
            refine lk_iconst (v := 2) dX9_tally_68 (by decide) ?_
            refine lk_icmp_geN (a := 1) (b := 2) (tgt := 100) dX9_tally_69 (by decide) (by omega) (by omega) (fun hh10 => absurd hh10 (by decide)) (fun hh10 => ?_)
            refine lk_iload_n dX9_tally_72 rfl rfl ?_
            refine lk_iload_n dX9_tally_73 rfl rfl ?_
            refine lk_icmp_ne (tgt := 100) dX9_tally_74 (by decide) (fun hh11 => ?_) (fun hh11 => ?_)
            ·
              refine lk_iincN (a := e) (m := 1) (L' := [(0, lk_vr 1 0), (1, lk_vi (i)), (2, lk_vi 1), (3, lk_vi (nI (e + 1))), (4, lk_vi ((y) + ((lk_ms σ V T) 1 0 (115 + k)))), (5, lk_vi (nI (k)))]) dX9_tally_100 rfl rfl (by decide +kernel) rfl ?_
              refine lk_iincN (a := k) (m := 1) (L' := [(0, lk_vr 1 0), (1, lk_vi (i)), (2, lk_vi 1), (3, lk_vi (nI (e + 1))), (4, lk_vi ((y) + ((lk_ms σ V T) 1 0 (115 + k)))), (5, lk_vi (nI (k + 1)))]) dX9_tally_103 rfl rfl (by decide +kernel) rfl ?_
              refine lk_goto (tgt := 20) dX9_tally_106 (by decide) ?_
              have hg := lk_g120 (V := V) (T := T) h1 h2 (show k < 120 by omega)
              rcases hg with ⟨a, b⟩ | ⟨a, b⟩
              · have hz : 0 < T 0 k := lk_pos0 (hT k a) (by rw [← b]; assumption)
                rw [(lk_ts1 a hz).1, if_neg (by assumption)] at hI
                exact ih (k + 1) (e + 1) (((y) + ((lk_ms σ V T) 1 0 (115 + k)))) (by omega) hI (by rw [(lk_ts1 (i := i) (e := e) a hz).2, hc]) (by omega)
              · exact absurd b (by assumption)
            ·
              refine lk_iload_n dX9_tally_77 rfl rfl ?_
              refine lk_if_ne (tgt := 89) dX9_tally_78 (by decide) (fun hh12 => ?_) (fun hh12 => absurd hh12 (by decide))
              refine lk_aload_n dX9_tally_89 rfl rfl ?_
              refine lk_getR (f := 0) dX9_tally_90 rfl fX9_9 (by decide) (by decide) ?_
              refine lk_bipush (v := 115) dX9_tally_93 (by decide) ?_
              refine lk_iload dX9_tally_95 rfl ?_
              refine lk_iaddN (a := 115) (b := k) dX9_tally_97 ?_
              refine lk_ialdN (f := 0) (i := 115 + k) dX9_tally_98 rfl (by decide) rfl (by omega) (by decide) ?_
              refine lk_iret .int dX9_tally_99 rfl rfl ?_
              rw [hQ]
              have hg := lk_g120 (V := V) (T := T) h1 h2 (show k < 120 by omega)
              rcases hg with ⟨a, b⟩ | ⟨a, b⟩
              · have hz : 0 < T 0 k := lk_pos0 (hT k a) (by rw [← b]; assumption)
                have hi : nI e = i := by first | assumption | exact Decidable.not_not.mp (by assumption)
                rw [(lk_ts1 a hz).1, if_pos hi] at hI
                have he : e ≤ 118 := by rw [hc]; exact Nat.le_trans (lk_ct_m _) (by omega)
                rw [if_neg (by rw [← hi]; exact lk_nim1 (by omega))]
                unfold lk_trw
                rw [← hR, hI]
                refine ⟨?_, rfl, rfl⟩
                rw [b]; rfl
              · exact absurd b (by assumption)
        ·
          refine lk_goto (tgt := 103) dX9_tally_40 (by decide) ?_
          refine lk_iincN (a := k) (m := 1) (L' := [(0, lk_vr 1 0), (1, lk_vi (i)), (2, lk_vi 1), (3, lk_vi (nI (e))), (4, lk_vi (y)), (5, lk_vi (nI (k + 1)))]) dX9_tally_103 rfl rfl (by decide +kernel) rfl ?_
          refine lk_goto (tgt := 20) dX9_tally_106 (by decide) ?_
          have hg := lk_g120 (V := V) (T := T) h1 h2 (show k < 120 by omega)
          have hz : (k < 118 ∧ T 0 k = 0) ∨ 118 ≤ k := by
            rcases hg with ⟨a, b⟩ | ⟨a, b⟩
            · exact Or.inl ⟨a, by rw [← b]; assumption⟩
            · exact Or.inr a
          rw [(lk_ts0 hz).1] at hI
          exact ih (k + 1) e ((y)) (by omega) hI (by rw [(lk_ts0 (i := i) (e := e) hz).2]; exact hc) (by omega)
  exact LP20 121 0 0 _ (by omega) hR rfl (by omega)
