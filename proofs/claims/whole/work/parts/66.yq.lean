theorem lk_dnr {a i : Nat} (h : i ≤ a) (h2 : a < 1000) : nI a + (0 - nI i) = nI (a - i) := by
  rw [show nI a + (0 - nI i) = nI a - nI i by grind]
  apply Int32.toInt_inj.mp
  rw [Int32.toInt_sub, nI_toInt (by omega), nI_toInt (by omega), nI_toInt (by omega), Int.bmod_eq_of_le] <;> omega
/-- what a boat's way leaves of the model -/
def lk_thP (σ W : lk_N) (b : Nat) (r : Int32) (j : Option (Nat × Int32 × Nat × Int32)) : Prop :=
  lk_fx [0, 6, 7, 8, 9, 10, 11] σ W ∧ (∀ x, ¬ x = 102 + b → W 1 0 x = σ 1 0 x) ∧ W 1 0 (102 + b) = r ∧ lk_kz σ W j
set_option maxHeartbeats 1000000 in
set_option maxRecDepth 100000 in
theorem tX9_through_out (l : Launch) (X : lk_G) (d : Nat) (σ : lk_N) (τ : lk_T) (V T : lk_O) (b : Int32) (h : ¬ ((0 : Int32) ≤ b ∧ b ≤ σ 1 0 114 - 1)) : lk_Mt l X mX9_through (d + 5) [lk_vr 1 0, lk_vi (b)] (lk_ms σ V T) τ (fun rr σ1 τ1 => rr = some (lk_vi (-1)) ∧ σ1 = (lk_ms σ V T) ∧ τ1 = τ) := by
  refine lk_met (L := [(0, lk_vr 1 0), (1, lk_vi (b))]) (by decide +kernel) (Nat.le_of_ble_eq_true rfl) rfl ?_
  obtain ⟨Q, hQ⟩ : ∃ Q : lk_Q, Q = fun rr σ1 τ1 => rr = some (lk_vi (-1)) ∧ σ1 = (lk_ms σ V T) ∧ τ1 = τ := ⟨_, rfl⟩
  rw [← hQ]
  refine lk_aload_n dX9_through_0 rfl rfl ?_
  refine lk_iload_n dX9_through_1 rfl rfl ?_
  refine lk_callV (o := 1) (as := [lk_vi (b)]) (S := []) dX9_through_2 rfl vX9_isBoat rfl lX9_112 rfl rfl (Nat.le_of_ble_eq_true rfl) (tX9_isBoat l X (d + 3) (lk_ms σ V T) τ (k := (b)) ) ?_
  refine lk_k3 ?_
  refine lk_cast (pc' := 5) (S' := [lk_vi (if (0 : Int32) ≤ (b) ∧ (b) ≤ (lk_ms σ V T) 1 0 114 - 1 then 1 else 0)]) rfl rfl rfl ?_
  refine lk_if_neB (tgt := 10) dX9_through_5 (by decide) (fun hh1 => absurd hh1 (by rw [lk_rB (by decide)]; exact h)) (fun hh1 => ?_)
  refine lk_iconst (v := (-1)) dX9_through_8 (by decide) ?_
  refine lk_iret .int dX9_through_9 rfl rfl ?_
  rw [hQ]
  exact ⟨by first | rfl | (simp [*]; done) | (simp_all; done) | grind, by first | rfl | (simp [*]; done), rfl⟩

set_option maxHeartbeats 1000000 in
set_option maxRecDepth 100000 in
theorem tX9_costs_out (l : Launch) (X : lk_G) (d : Nat) (σ : lk_N) (τ : lk_T) (V T : lk_O) (b : Int32) (h : ¬ ((0 : Int32) ≤ b ∧ b ≤ σ 1 0 114 - 1)) : lk_Mt l X mX9_costs (d + 5) [lk_vr 1 0, lk_vi (b)] (lk_ms σ V T) τ (fun rr σ1 τ1 => rr = some (lk_vi (-2000000)) ∧ σ1 = (lk_ms σ V T) ∧ τ1 = τ) := by
  refine lk_met (L := [(0, lk_vr 1 0), (1, lk_vi (b))]) (by decide +kernel) (Nat.le_of_ble_eq_true rfl) rfl ?_
  obtain ⟨Q, hQ⟩ : ∃ Q : lk_Q, Q = fun rr σ1 τ1 => rr = some (lk_vi (-2000000)) ∧ σ1 = (lk_ms σ V T) ∧ τ1 = τ := ⟨_, rfl⟩
  rw [← hQ]
  refine lk_aload_n dX9_costs_0 rfl rfl ?_
  refine lk_iload_n dX9_costs_1 rfl rfl ?_
  refine lk_callV (o := 1) (as := [lk_vi (b)]) (S := []) dX9_costs_2 rfl vX9_isBoat rfl lX9_112 rfl rfl (Nat.le_of_ble_eq_true rfl) (tX9_isBoat l X (d + 3) (lk_ms σ V T) τ (k := (b)) ) ?_
  refine lk_k3 ?_
  refine lk_cast (pc' := 5) (S' := [lk_vi (if (0 : Int32) ≤ (b) ∧ (b) ≤ (lk_ms σ V T) 1 0 114 - 1 then 1 else 0)]) rfl rfl rfl ?_
  refine lk_if_neB (tgt := 11) dX9_costs_5 (by decide) (fun hh1 => absurd hh1 (by rw [lk_rB (by decide)]; exact h)) (fun hh1 => ?_)
  refine lk_ldc dX9_costs_8 kX9_157 ?_
  refine lk_iret .int dX9_costs_10 rfl rfl ?_
  rw [hQ]
  exact ⟨by first | rfl | (simp [*]; done) | (simp_all; done) | grind, by first | rfl | (simp [*]; done), rfl⟩

set_option maxHeartbeats 1000000 in
set_option maxRecDepth 100000 in
theorem tX9_through_up (l : Launch) (X : lk_G) (d : Nat) (σ : lk_N) (τ : lk_T) (V T : lk_O) (n nf b : Nat) (hn : σ 1 0 114 = nI nf) (hb : b < nf) (hn12 : nf ≤ 12) (ha : lk_all V n) (a : Nat) (z : Int32) (hu : σ 1 0 (90 + b) = 1) (hr0 : σ 1 0 (102 + b) = nI a) (han : a ≤ n) (hs : σ 1 0 (66 + b) = z) (hz : 0 ≤ z.toInt) (hz9 : z.toInt ≤ 9) : lk_Mt l X mX9_through (d + 5) [lk_vr 1 0, lk_vi (nI (b))] (lk_ms σ V T) τ (fun rr σ1 τ1 => rr = some (lk_vi (nI (lk_trv true z (lk_lks true a n) V T).1)) ∧ τ1 = τ ∧ ∃ W : lk_N, σ1 = lk_ms W (lk_trv true z (lk_lks true a n) V T).2.2.1 (lk_trv true z (lk_lks true a n) V T).2.2.2 ∧ lk_thP σ W b (nI a + nI (lk_trv true z (lk_lks true a n) V T).1) (lk_trv true z (lk_lks true a n) V T).2.1) := by
  refine lk_met (L := [(0, lk_vr 1 0), (1, lk_vi (nI (b)))]) (by decide +kernel) (Nat.le_of_ble_eq_true rfl) rfl ?_
  obtain ⟨Q, hQ⟩ : ∃ Q : lk_Q, Q = fun rr σ1 τ1 => rr = some (lk_vi (nI (lk_trv true z (lk_lks true a n) V T).1)) ∧ τ1 = τ ∧ ∃ W : lk_N, σ1 = lk_ms W (lk_trv true z (lk_lks true a n) V T).2.2.1 (lk_trv true z (lk_lks true a n) V T).2.2.2 ∧ lk_thP σ W b (nI a + nI (lk_trv true z (lk_lks true a n) V T).1) (lk_trv true z (lk_lks true a n) V T).2.1 := ⟨_, rfl⟩
  rw [← hQ]
  have hb12 : b < 12 := by omega
  have hn6 := ha.1.2.2.1
  refine lk_aload_n dX9_through_0 rfl rfl ?_
  refine lk_iload_n dX9_through_1 rfl rfl ?_
  refine lk_callV (o := 1) (as := [lk_vi (nI (b))]) (S := []) dX9_through_2 rfl vX9_isBoat rfl lX9_112 rfl rfl (Nat.le_of_ble_eq_true rfl) (tX9_isBoat l X (d + 3) (lk_ms σ V T) τ (k := (nI (b))) ) ?_
  refine lk_k3 ?_
  refine lk_cast (pc' := 5) (S' := [lk_vi (if (0 : Int32) ≤ (nI (b)) ∧ (nI (b)) ≤ (lk_ms σ V T) 1 0 114 - 1 then 1 else 0)]) rfl rfl rfl ?_
  refine lk_if_neB (tgt := 10) dX9_through_5 (by decide) (fun hh1 => ?_) (fun hh1 => absurd hh1 (fun q => q (by rw [lk_rB (by decide)]; exact lk_isb hn hb hn12)))
  refine lk_iconst (v := 0) dX9_through_10 (by decide) ?_
  refine lk_istore_n (L' := [(0, lk_vr 1 0), (1, lk_vi (nI (b))), (2, lk_vi 0)]) dX9_through_11 rfl (by decide +kernel) rfl ?_
  have LP12 : ∀ (fu : Nat) (k i : Nat) (W : lk_N) (V1 U1 : lk_O), k ≤ n → k = a + i → lk_all V1 n → lk_fx [0, 6, 7, 8, 9, 10, 11] σ W → (∀ x, ¬ x = 102 + b → W 1 0 x = σ 1 0 x) → W 1 0 (102 + b) = nI k → lk_kz σ W none → (lk_trv true z (lk_lks true a n) V T) = ((lk_trv true z (List.range' k (n - k)) V1 U1).1 + i, (lk_trv true z (List.range' k (n - k)) V1 U1).2) → n - k < fu → lk_W l X mX9_through (d + 5) 12 [(0, lk_vr 1 0), (1, lk_vi (nI (b))), (2, lk_vi (nI (i)))] [] (lk_ms W V1 U1) τ Q := by
    intro fu
    induction fu with
    | zero => intro k i W V1 U1 hk hki hc hWf hx hre hWk hI hfu; exact absurd hfu (by omega)
    | succ fu ih =>
      intro k i W V1 U1 hk hki hc hWf hx hre hWk hI hfu
      refine lk_aload_n dX9_through_12 rfl rfl ?_
      refine lk_iload_n dX9_through_13 rfl rfl ?_
      rcases Nat.lt_or_ge k n with hkn | hkn
      ·
        have er : List.range' k (n - k) = k :: List.range' (k + 1) (n - (k + 1)) := by rw [show n - k = (n - (k + 1)) + 1 by omega, List.range'_succ]
        rw [er] at hI
        refine lk_callV (o := 1) (as := [lk_vi (nI (b))]) (S := []) dX9_through_14 rfl vX9_lockOf rfl lX9_151 rfl rfl (Nat.le_of_ble_eq_true rfl) (tX9_lockOf_up l X (d + 2) W τ (b := (b)) (V := V1) (T := U1) (hb := hb12) (n := n) (k := k) (hV := hc.1) (hk := hkn) (hu := ((hx (90 + b) (by omega)).trans hu)) (hr := hre)) ?_
        refine lk_k3 ?_
        refine lk_cast (pc' := 17) (S' := [lk_vi (nI (k))]) rfl rfl rfl ?_
        refine lk_bipush (v := (-2)) dX9_through_17 (by decide) ?_
        refine lk_icmp_eq (tgt := 37) dX9_through_19 (by decide) (fun hh2 => absurd hh2 (lk_nim2 (by omega))) (fun hh2 => ?_)
        refine lk_aload_n dX9_through_22 rfl rfl ?_
        refine lk_iload_n dX9_through_23 rfl rfl ?_
        refine lk_iconst (v := 1) dX9_through_24 (by decide) ?_
        rcases hp : lk_pas V1 k true z with V2 | q
        ·
          refine lk_callV (o := 1) (as := [lk_vi (nI (b)), lk_vi 1]) (S := []) dX9_through_25 rfl vX9_boatGoes rfl lX9_159 rfl rfl (Nat.le_of_ble_eq_true rfl) (tX9_boatGoes_up1_ok l X d W τ (b := (b)) (V := V1) (T := U1) (hb := hb12) (n := n) (k := k) (z := z) (hV := hc.1) (hr := hc.2.1) (hk := hkn) (hu := ((hx (90 + b) (by omega)).trans hu)) (hre := hre) (hs := ((hx (66 + b) (by omega)).trans hs)) (hz := hz) (hz9 := hz9) (W := V2) (h := hp)) ?_
          refine lk_k3 ?_
          refine lk_cast (pc' := 28) (S' := [lk_vi 1]) rfl rfl rfl ?_
          refine lk_if_eq (tgt := 37) dX9_through_28 (by decide) (fun hh3 => absurd hh3 (by decide)) (fun hh3 => ?_)
          refine lk_iincN (a := i) (m := 1) (L' := [(0, lk_vr 1 0), (1, lk_vi (nI (b))), (2, lk_vi (nI (i + 1)))]) dX9_through_31 rfl rfl (by decide +kernel) rfl ?_
          refine lk_goto (tgt := 12) dX9_through_34 (by decide) ?_
          simp only [lk_trv, hp] at hI
          exact ih (k + 1) (i + 1) ((lk_up (lk_up W 1 6 0 (V1 6 (k + 1) - V2 6 (k + 1))) 1 0 (102 + (b)) (nI (k + 1)))) V2 (lk_tad U1 (V1 6 (k + 1) - V2 6 (k + 1))) (by omega) (by omega) (lk_all_pas hc hkn hz hz9 hp) (lk_fx_up (lk_fx_up hWf (by decide)) (by decide)) (fun x h1 => by simp only [lk_up]; rw [if_neg (fun z => h1 z.2.2), if_neg (by simp)]; exact hx x h1) (by simp [lk_up]) ⟨hWk.1, hWk.2⟩ (by rw [hI]; congr 1 <;> omega) (by omega)
        ·
          refine lk_callV (o := 1) (as := [lk_vi (nI (b)), lk_vi 1]) (S := []) dX9_through_25 rfl vX9_boatGoes rfl lX9_159 rfl rfl (Nat.le_of_ble_eq_true rfl) (tX9_boatGoes_up1_no l X d W τ (b := (b)) (V := V1) (T := U1) (hb := hb12) (n := n) (k := k) (z := z) (hV := hc.1) (hr := hc.2.1) (hk := hkn) (hu := ((hx (90 + b) (by omega)).trans hu)) (hre := hre) (hs := ((hx (66 + b) (by omega)).trans hs)) (hz := hz) (hz9 := hz9) (q := q) (h := hp)) ?_
          refine lk_k5 (fun s1 => ?_)
          refine lk_cast (pc' := 28) (S' := [lk_vi 0]) rfl rfl rfl ?_
          refine lk_sg (σ' := (lk_ms (lk_cau (lk_up (lk_bar W q) 1 6 0 s1) k q) V1 U1)) rfl ?_
          refine lk_if_eq (tgt := 37) dX9_through_28 (by decide) (fun hh4 => ?_) (fun hh4 => absurd hh4 (by decide))
          refine lk_iload_n dX9_through_37 rfl rfl ?_
          refine lk_iret .int dX9_through_38 rfl rfl ?_
          rw [hQ]
          simp only [lk_trv, hp] at hI
          rw [hI]
          exact ⟨by rw [Nat.zero_add], rfl, (lk_cau (lk_up (lk_bar W q) 1 6 0 s1) k q), rfl, (lk_fx_cau (lk_fx_up (lk_fx_bar hWf (by decide) (by decide) (by decide)) (by decide)) (by decide) (by decide)), fun x h1 => hx x h1, (by
            show W 1 0 (102 + b) = _
            rw [hre]
            have hka : k = a + i := hki
            rw [hka, Nat.zero_add]; exact (nI_add a i).symm), ⟨rfl, rfl, rfl, rfl, rfl⟩⟩
      ·
        have e0 : n - k = 0 := by omega
        have ek : k = n := by omega
        rw [e0] at hI
        refine lk_callV (o := 1) (as := [lk_vi (nI (b))]) (S := []) dX9_through_14 rfl vX9_lockOf rfl lX9_151 rfl rfl (Nat.le_of_ble_eq_true rfl) (tX9_lockOf_up0 l X (d + 2) W τ (b := (b)) (V := V1) (T := U1) (hb := hb12) (n := n) (hV := hc.1) (hu := ((hx (90 + b) (by omega)).trans hu)) (hr := hre.trans (by rw [ek]))) ?_
        refine lk_k3 ?_
        refine lk_cast (pc' := 17) (S' := [lk_vi (-2)]) rfl rfl rfl ?_
        refine lk_bipush (v := (-2)) dX9_through_17 (by decide) ?_
        refine lk_icmp_eq (tgt := 37) dX9_through_19 (by decide) (fun hh5 => ?_) (fun hh5 => absurd hh5 (fun q => q rfl))
        refine lk_iload_n dX9_through_37 rfl rfl ?_
        refine lk_iret .int dX9_through_38 rfl rfl ?_
        rw [hQ]
        simp only [List.range'_zero, lk_trv] at hI
        rw [hI]
        exact ⟨by rw [Nat.zero_add], rfl, W, rfl, hWf, fun x h1 => hx x h1, (by
          show W 1 0 (102 + b) = _
          rw [hre]
          have hka : k = a + i := hki
          rw [hka, Nat.zero_add]; exact (nI_add a i).symm), ⟨hWk.1, hWk.2⟩⟩
  exact LP12 (n - a + 1) a 0 σ V T han (by omega) ha (lk_fx_rf _ _) (fun _ _ => rfl) hr0 ⟨rfl, rfl⟩ (by simp [lk_lks]) (by omega)

set_option maxHeartbeats 1000000 in
set_option maxRecDepth 100000 in
theorem tX9_costs_up (l : Launch) (X : lk_G) (d : Nat) (σ : lk_N) (τ : lk_T) (V T : lk_O) (n nf b : Nat) (hn : σ 1 0 114 = nI nf) (hb : b < nf) (hn12 : nf ≤ 12) (ha : lk_all V n) (a : Nat) (z : Int32) (hu : σ 1 0 (90 + b) = 1) (hr0 : σ 1 0 (102 + b) = nI a) (han : a ≤ n) (hs : σ 1 0 (66 + b) = z) (hz : 0 ≤ z.toInt) (hz9 : z.toInt ≤ 9) : lk_Mt l X mX9_costs (d + 5) [lk_vr 1 0, lk_vi (nI (b))] (lk_ms σ V T) τ (fun rr σ1 τ1 => rr = some (lk_vi (V 6 n - (lk_trv true z (lk_lks true a n) V T).2.2.1 6 n)) ∧ τ1 = τ ∧ ∃ W : lk_N, σ1 = lk_ms W V T ∧ (lk_fx [2, 6, 7, 8, 9, 10, 11, 18, 19, 20, 21, 22, 23] σ W ∧ lk_kz σ W none)) := by
  refine lk_met (L := [(0, lk_vr 1 0), (1, lk_vi (nI (b)))]) (by decide +kernel) (Nat.le_of_ble_eq_true rfl) rfl ?_
  obtain ⟨Q, hQ⟩ : ∃ Q : lk_Q, Q = fun rr σ1 τ1 => rr = some (lk_vi (V 6 n - (lk_trv true z (lk_lks true a n) V T).2.2.1 6 n)) ∧ τ1 = τ ∧ ∃ W : lk_N, σ1 = lk_ms W V T ∧ (lk_fx [2, 6, 7, 8, 9, 10, 11, 18, 19, 20, 21, 22, 23] σ W ∧ lk_kz σ W none) := ⟨_, rfl⟩
  rw [← hQ]
  have hb12 : b < 12 := by omega
  have hn6 := ha.1.2.2.1
  refine lk_aload_n dX9_costs_0 rfl rfl ?_
  refine lk_iload_n dX9_costs_1 rfl rfl ?_
  refine lk_callV (o := 1) (as := [lk_vi (nI (b))]) (S := []) dX9_costs_2 rfl vX9_isBoat rfl lX9_112 rfl rfl (Nat.le_of_ble_eq_true rfl) (tX9_isBoat l X (d + 3) (lk_ms σ V T) τ (k := (nI (b))) ) ?_
  refine lk_k3 ?_
  refine lk_cast (pc' := 5) (S' := [lk_vi (if (0 : Int32) ≤ (nI (b)) ∧ (nI (b)) ≤ (lk_ms σ V T) 1 0 114 - 1 then 1 else 0)]) rfl rfl rfl ?_
  refine lk_if_neB (tgt := 11) dX9_costs_5 (by decide) (fun hh1 => ?_) (fun hh1 => absurd hh1 (fun q => q (by rw [lk_rB (by decide)]; exact lk_isb hn hb hn12)))
  refine lk_aload_n dX9_costs_11 rfl rfl ?_
  refine lk_getR (f := 0) dX9_costs_12 rfl fX9_9 (by decide) (by decide) ?_
  refine lk_aload_n dX9_costs_15 rfl rfl ?_
  refine lk_getR (f := 2) dX9_costs_16 rfl fX9_18 (by decide) (by decide) ?_
  refine lk_callS (as := [lk_vr 1 1, lk_vr 1 3]) (S := []) dX9_costs_19 rfl vX9_pours rfl lX9_105 (Nat.le_of_ble_eq_true rfl) (tX9_pours_02ms l X (d + 4) σ τ (V := V) (T := T) ) ?_
  refine lk_k3 ?_
  refine lk_cast (pc' := 22) (S' := []) rfl rfl rfl ?_
  refine lk_bipush (v := 24) dX9_costs_22 (by decide) ?_
  refine lk_aload_n dX9_costs_24 rfl rfl ?_
  refine lk_getR (f := 0) dX9_costs_25 rfl fX9_9 (by decide) (by decide) ?_
  refine lk_bipush (v := 53) dX9_costs_28 (by decide) ?_
  refine lk_ialdN (f := 0) (i := 53) dX9_costs_30 rfl (by decide) rfl (by omega) (by decide) ?_
  refine lk_eqtop (y := (nI (n))) ((lk_r0 rfl rfl).trans ha.1.1) ?_
  refine lk_iaddN (a := 24) (b := n) dX9_costs_31 ?_
  refine lk_istore_n (L' := [(0, lk_vr 1 0), (1, lk_vi (nI (b))), (2, lk_vi (nI (24 + n)))]) dX9_costs_32 rfl (by decide +kernel) rfl ?_
  refine lk_aload_n dX9_costs_33 rfl rfl ?_
  refine lk_getR (f := 0) dX9_costs_34 rfl fX9_9 (by decide) (by decide) ?_
  refine lk_iload_n dX9_costs_37 rfl rfl ?_
  refine lk_ialdN (f := 0) (i := 24 + n) dX9_costs_38 rfl (by decide) rfl (by omega) (by decide) ?_
  refine lk_eqtop (y := (V 6 (n))) (lk_r6 (by omega) (by omega)) ?_
  refine lk_istore_n (L' := [(0, lk_vr 1 0), (1, lk_vi (nI (b))), (2, lk_vi (nI (24 + n))), (3, lk_vi (V 6 (n)))]) dX9_costs_39 rfl (by decide +kernel) rfl ?_
  refine lk_iconst (v := 1) dX9_costs_40 (by decide) ?_
  refine lk_istore (L' := [(0, lk_vr 1 0), (1, lk_vi (nI (b))), (2, lk_vi (nI (24 + n))), (3, lk_vi (V 6 (n))), (4, lk_vi 1)]) dX9_costs_41 (by decide +kernel) rfl ?_
  have LP43 : ∀ (fu : Nat) (k i : Nat) (W : lk_N) (V1 U1 : lk_O), k ≤ n → lk_all V1 n → lk_fx [0, 6, 7, 8, 9, 10, 11, 18, 19, 20, 21, 22, 23] (lk_lay σ V T) W → (∀ x, ¬ x = 102 + b → W 1 0 x = σ 1 0 x) → W 1 0 (102 + b) = nI k → lk_kz (lk_lay σ V T) W none → (lk_trv true z (lk_lks true a n) V T) = ((lk_trv true z (List.range' k (n - k)) V1 U1).1 + i, (lk_trv true z (List.range' k (n - k)) V1 U1).2) → n - k < fu → lk_W l X mX9_costs (d + 5) 43 [(0, lk_vr 1 0), (1, lk_vi (nI (b))), (2, lk_vi (nI (24 + n))), (3, lk_vi (V 6 n)), (4, lk_vi 1)] [] (lk_ms W V1 T) τ Q := by
    intro fu
    induction fu with
    | zero => intro k i W V1 U1 hk hc hWf hx hre hWk hI hfu; exact absurd hfu (by omega)
    | succ fu ih =>
      intro k i W V1 U1 hk hc hWf hx hre hWk hI hfu
      refine lk_iload dX9_costs_43 rfl ?_
      refine lk_if_eq (tgt := 69) dX9_costs_45 (by decide) (fun hh2 => absurd hh2 (by decide)) (fun hh2 => ?_)
      refine lk_aload_n dX9_costs_48 rfl rfl ?_
      refine lk_iload_n dX9_costs_49 rfl rfl ?_
      rcases Nat.lt_or_ge k n with hkn | hkn
      ·
        have er : List.range' k (n - k) = k :: List.range' (k + 1) (n - (k + 1)) := by rw [show n - k = (n - (k + 1)) + 1 by omega, List.range'_succ]
        rw [er] at hI
        refine lk_callV (o := 1) (as := [lk_vi (nI (b))]) (S := []) dX9_costs_50 rfl vX9_lockOf rfl lX9_151 rfl rfl (Nat.le_of_ble_eq_true rfl) (tX9_lockOf_up l X (d + 2) W τ (b := (b)) (V := V1) (T := T) (hb := hb12) (n := n) (k := k) (hV := hc.1) (hk := hkn) (hu := ((hx (90 + b) (by omega)).trans hu)) (hr := hre)) ?_
        refine lk_k3 ?_
        refine lk_cast (pc' := 53) (S' := [lk_vi (nI (k))]) rfl rfl rfl ?_
        refine lk_bipush (v := (-2)) dX9_costs_53 (by decide) ?_
        refine lk_icmp_eq (tgt := 69) dX9_costs_55 (by decide) (fun hh3 => absurd hh3 (lk_nim2 (by omega))) (fun hh3 => ?_)
        refine lk_aload_n dX9_costs_58 rfl rfl ?_
        refine lk_iload_n dX9_costs_59 rfl rfl ?_
        refine lk_iconst (v := 0) dX9_costs_60 (by decide) ?_
        rcases hp : lk_pas V1 k true z with V2 | q
        ·
          refine lk_callV (o := 1) (as := [lk_vi (nI (b)), lk_vi 0]) (S := []) dX9_costs_61 rfl vX9_boatGoes rfl lX9_159 rfl rfl (Nat.le_of_ble_eq_true rfl) (tX9_boatGoes_up0_ok l X d W τ (b := (b)) (V := V1) (T := T) (hb := hb12) (n := n) (k := k) (z := z) (hV := hc.1) (hr := hc.2.1) (hk := hkn) (hu := ((hx (90 + b) (by omega)).trans hu)) (hre := hre) (hs := ((hx (66 + b) (by omega)).trans hs)) (W := V2) (h := hp)) ?_
          refine lk_k3 ?_
          refine lk_cast (pc' := 64) (S' := [lk_vi 1]) rfl rfl rfl ?_
          refine lk_istore (L' := [(0, lk_vr 1 0), (1, lk_vi (nI (b))), (2, lk_vi (nI (24 + n))), (3, lk_vi (V 6 n)), (4, lk_vi 1)]) dX9_costs_64 (by decide +kernel) rfl ?_
          refine lk_goto (tgt := 43) dX9_costs_66 (by decide) ?_
          simp only [lk_trv, hp] at hI
          exact ih (k + 1) (i + 1) ((lk_up (lk_up W 1 6 0 (V1 6 (k + 1) - V2 6 (k + 1))) 1 0 (102 + (b)) (nI (k + 1)))) V2 (lk_tad U1 (V1 6 (k + 1) - V2 6 (k + 1))) (by omega) (lk_all_pas hc hkn hz hz9 hp) (lk_fx_up (lk_fx_up hWf (by decide)) (by decide)) (fun x h1 => by simp only [lk_up]; rw [if_neg (fun z => h1 z.2.2), if_neg (by simp)]; exact hx x h1) (by simp [lk_up]) ⟨hWk.1, hWk.2⟩ (by rw [hI]; congr 1 <;> omega) (by omega)
        ·
          refine lk_callV (o := 1) (as := [lk_vi (nI (b)), lk_vi 0]) (S := []) dX9_costs_61 rfl vX9_boatGoes rfl lX9_159 rfl rfl (Nat.le_of_ble_eq_true rfl) (tX9_boatGoes_up0_no l X d W τ (b := (b)) (V := V1) (T := T) (hb := hb12) (n := n) (k := k) (z := z) (hV := hc.1) (hr := hc.2.1) (hk := hkn) (hu := ((hx (90 + b) (by omega)).trans hu)) (hre := hre) (hs := ((hx (66 + b) (by omega)).trans hs)) (q := q) (h := hp)) ?_
          refine lk_k5 (fun s1 => ?_)
          refine lk_cast (pc' := 64) (S' := [lk_vi 0]) rfl rfl rfl ?_
          refine lk_sg (σ' := (lk_ms (lk_up (lk_bar W q) 1 6 0 s1) V1 T)) rfl ?_
          refine lk_istore (L' := [(0, lk_vr 1 0), (1, lk_vi (nI (b))), (2, lk_vi (nI (24 + n))), (3, lk_vi (V 6 n)), (4, lk_vi 0)]) dX9_costs_64 (by decide +kernel) rfl ?_
          refine lk_goto (tgt := 43) dX9_costs_66 (by decide) ?_
          refine lk_iload dX9_costs_43 rfl ?_
          refine lk_if_eq (tgt := 69) dX9_costs_45 (by decide) (fun hh4 => ?_) (fun hh4 => absurd hh4 (by decide))
          refine lk_iload_n dX9_costs_69 rfl rfl ?_
          refine lk_aload_n dX9_costs_70 rfl rfl ?_
          refine lk_getR (f := 0) dX9_costs_71 rfl fX9_9 (by decide) (by decide) ?_
          refine lk_iload_n dX9_costs_74 rfl rfl ?_
          refine lk_ialdN (f := 0) (i := 24 + n) dX9_costs_75 rfl (by decide) rfl (by omega) (by decide) ?_
          refine lk_eqtop (y := (V1 6 (n))) (lk_r6 (by omega) (by omega)) ?_
          refine lk_isub dX9_costs_76 ?_
          refine lk_istore (L' := [(0, lk_vr 1 0), (1, lk_vi (nI (b))), (2, lk_vi (nI (24 + n))), (3, lk_vi (V 6 n)), (4, lk_vi 0), (5, lk_vi ((V 6 n) - (V1 6 (n))))]) dX9_costs_77 (by decide +kernel) rfl ?_
          have hWs : lk_fx [0, 6, 7, 8, 9, 10, 11, 18, 19, 20, 21, 22, 23] (lk_lay σ V T) (lk_up (lk_bar W q) 1 6 0 s1) := (lk_fx_up (lk_fx_bar hWf (by decide) (by decide) (by decide)) (by decide))
          refine lk_aload_n dX9_costs_79 rfl rfl ?_
          refine lk_getR (f := 2) dX9_costs_80 rfl fX9_18 (by decide) (by decide) ?_
          refine lk_aload_n dX9_costs_83 rfl rfl ?_
          refine lk_getR (f := 0) dX9_costs_84 rfl fX9_9 (by decide) (by decide) ?_
          refine lk_callS (as := [lk_vr 1 3, lk_vr 1 1]) (S := []) dX9_costs_87 rfl vX9_pours rfl lX9_105 (Nat.le_of_ble_eq_true rfl) (tX9_pours_20ms l X (d + 4) (lk_up (lk_bar W q) 1 6 0 s1) τ (V := V1) (T := T) (V0 := V) (T0 := T) (R := σ 1 0) (hA := fun j _ => lk_lay_w hWs j)) ?_
          refine lk_k3 ?_
          refine lk_cast (pc' := 90) (S' := []) rfl rfl rfl ?_
          refine lk_iload dX9_costs_90 rfl ?_
          refine lk_iret .int dX9_costs_92 rfl rfl ?_
          rw [hQ]
          simp only [lk_trv, hp] at hI
          rw [hI]
          exact ⟨rfl, rfl, (lk_sw (lk_up (lk_bar W q) 1 6 0 s1) 1 0 (σ 1 0)), rfl, lk_fx_th hWs, lk_kz_th ⟨hWk.1, hWk.2⟩⟩
      ·
        have e0 : n - k = 0 := by omega
        have ek : k = n := by omega
        rw [e0] at hI
        refine lk_callV (o := 1) (as := [lk_vi (nI (b))]) (S := []) dX9_costs_50 rfl vX9_lockOf rfl lX9_151 rfl rfl (Nat.le_of_ble_eq_true rfl) (tX9_lockOf_up0 l X (d + 2) W τ (b := (b)) (V := V1) (T := T) (hb := hb12) (n := n) (hV := hc.1) (hu := ((hx (90 + b) (by omega)).trans hu)) (hr := hre.trans (by rw [ek]))) ?_
        refine lk_k3 ?_
        refine lk_cast (pc' := 53) (S' := [lk_vi (-2)]) rfl rfl rfl ?_
        refine lk_bipush (v := (-2)) dX9_costs_53 (by decide) ?_
        refine lk_icmp_eq (tgt := 69) dX9_costs_55 (by decide) (fun hh5 => ?_) (fun hh5 => absurd hh5 (fun q => q rfl))
        refine lk_iload_n dX9_costs_69 rfl rfl ?_
        refine lk_aload_n dX9_costs_70 rfl rfl ?_
        refine lk_getR (f := 0) dX9_costs_71 rfl fX9_9 (by decide) (by decide) ?_
        refine lk_iload_n dX9_costs_74 rfl rfl ?_
        refine lk_ialdN (f := 0) (i := 24 + n) dX9_costs_75 rfl (by decide) rfl (by omega) (by decide) ?_
        refine lk_eqtop (y := (V1 6 (n))) (lk_r6 (by omega) (by omega)) ?_
        refine lk_isub dX9_costs_76 ?_
        refine lk_istore (L' := [(0, lk_vr 1 0), (1, lk_vi (nI (b))), (2, lk_vi (nI (24 + n))), (3, lk_vi (V 6 n)), (4, lk_vi 1), (5, lk_vi ((V 6 n) - (V1 6 (n))))]) dX9_costs_77 (by decide +kernel) rfl ?_
        have hWs : lk_fx [0, 6, 7, 8, 9, 10, 11, 18, 19, 20, 21, 22, 23] (lk_lay σ V T) W := hWf
        refine lk_aload_n dX9_costs_79 rfl rfl ?_
        refine lk_getR (f := 2) dX9_costs_80 rfl fX9_18 (by decide) (by decide) ?_
        refine lk_aload_n dX9_costs_83 rfl rfl ?_
        refine lk_getR (f := 0) dX9_costs_84 rfl fX9_9 (by decide) (by decide) ?_
        refine lk_callS (as := [lk_vr 1 3, lk_vr 1 1]) (S := []) dX9_costs_87 rfl vX9_pours rfl lX9_105 (Nat.le_of_ble_eq_true rfl) (tX9_pours_20ms l X (d + 4) W τ (V := V1) (T := T) (V0 := V) (T0 := T) (R := σ 1 0) (hA := fun j _ => lk_lay_w hWs j)) ?_
        refine lk_k3 ?_
        refine lk_cast (pc' := 90) (S' := []) rfl rfl rfl ?_
        refine lk_iload dX9_costs_90 rfl ?_
        refine lk_iret .int dX9_costs_92 rfl rfl ?_
        rw [hQ]
        simp only [List.range'_zero, lk_trv] at hI
        rw [hI]
        exact ⟨rfl, rfl, (lk_sw W 1 0 (σ 1 0)), rfl, lk_fx_th hWs, lk_kz_th ⟨hWk.1, hWk.2⟩⟩
  exact LP43 (n - a + 1) a 0 (lk_lay σ V T) V T han ha (lk_fx_rf _ _) (fun _ _ => rfl) hr0 ⟨rfl, rfl⟩ (by simp [lk_lks]) (by omega)

set_option maxHeartbeats 1000000 in
set_option maxRecDepth 100000 in
theorem tX9_through_dn (l : Launch) (X : lk_G) (d : Nat) (σ : lk_N) (τ : lk_T) (V T : lk_O) (n nf b : Nat) (hn : σ 1 0 114 = nI nf) (hb : b < nf) (hn12 : nf ≤ 12) (ha : lk_all V n) (a : Nat) (z : Int32) (hu : σ 1 0 (90 + b) = 0) (hr0 : σ 1 0 (102 + b) = nI a) (han : a ≤ n) (hs : σ 1 0 (66 + b) = z) (hz : 0 ≤ z.toInt) (hz9 : z.toInt ≤ 9) : lk_Mt l X mX9_through (d + 5) [lk_vr 1 0, lk_vi (nI (b))] (lk_ms σ V T) τ (fun rr σ1 τ1 => rr = some (lk_vi (nI (lk_trv false z (lk_lks false a n) V T).1)) ∧ τ1 = τ ∧ ∃ W : lk_N, σ1 = lk_ms W (lk_trv false z (lk_lks false a n) V T).2.2.1 (lk_trv false z (lk_lks false a n) V T).2.2.2 ∧ lk_thP σ W b (nI a + (0 - nI (lk_trv false z (lk_lks false a n) V T).1)) (lk_trv false z (lk_lks false a n) V T).2.1) := by
  refine lk_met (L := [(0, lk_vr 1 0), (1, lk_vi (nI (b)))]) (by decide +kernel) (Nat.le_of_ble_eq_true rfl) rfl ?_
  obtain ⟨Q, hQ⟩ : ∃ Q : lk_Q, Q = fun rr σ1 τ1 => rr = some (lk_vi (nI (lk_trv false z (lk_lks false a n) V T).1)) ∧ τ1 = τ ∧ ∃ W : lk_N, σ1 = lk_ms W (lk_trv false z (lk_lks false a n) V T).2.2.1 (lk_trv false z (lk_lks false a n) V T).2.2.2 ∧ lk_thP σ W b (nI a + (0 - nI (lk_trv false z (lk_lks false a n) V T).1)) (lk_trv false z (lk_lks false a n) V T).2.1 := ⟨_, rfl⟩
  rw [← hQ]
  have hb12 : b < 12 := by omega
  have hn6 := ha.1.2.2.1
  refine lk_aload_n dX9_through_0 rfl rfl ?_
  refine lk_iload_n dX9_through_1 rfl rfl ?_
  refine lk_callV (o := 1) (as := [lk_vi (nI (b))]) (S := []) dX9_through_2 rfl vX9_isBoat rfl lX9_112 rfl rfl (Nat.le_of_ble_eq_true rfl) (tX9_isBoat l X (d + 3) (lk_ms σ V T) τ (k := (nI (b))) ) ?_
  refine lk_k3 ?_
  refine lk_cast (pc' := 5) (S' := [lk_vi (if (0 : Int32) ≤ (nI (b)) ∧ (nI (b)) ≤ (lk_ms σ V T) 1 0 114 - 1 then 1 else 0)]) rfl rfl rfl ?_
  refine lk_if_neB (tgt := 10) dX9_through_5 (by decide) (fun hh1 => ?_) (fun hh1 => absurd hh1 (fun q => q (by rw [lk_rB (by decide)]; exact lk_isb hn hb hn12)))
  refine lk_iconst (v := 0) dX9_through_10 (by decide) ?_
  refine lk_istore_n (L' := [(0, lk_vr 1 0), (1, lk_vi (nI (b))), (2, lk_vi 0)]) dX9_through_11 rfl (by decide +kernel) rfl ?_
  have LP12 : ∀ (fu : Nat) (k i : Nat) (W : lk_N) (V1 U1 : lk_O), k ≤ n → k + i = a → lk_all V1 n → lk_fx [0, 6, 7, 8, 9, 10, 11] σ W → (∀ x, ¬ x = 102 + b → W 1 0 x = σ 1 0 x) → W 1 0 (102 + b) = nI k → lk_kz σ W none → (lk_trv false z (lk_lks false a n) V T) = ((lk_trv false z (List.range k).reverse V1 U1).1 + i, (lk_trv false z (List.range k).reverse V1 U1).2) → k < fu → lk_W l X mX9_through (d + 5) 12 [(0, lk_vr 1 0), (1, lk_vi (nI (b))), (2, lk_vi (nI (i)))] [] (lk_ms W V1 U1) τ Q := by
    intro fu
    induction fu with
    | zero => intro k i W V1 U1 hk hki hc hWf hx hre hWk hI hfu; exact absurd hfu (by omega)
    | succ fu ih =>
      intro k i W V1 U1 hk hki hc hWf hx hre hWk hI hfu
      refine lk_aload_n dX9_through_12 rfl rfl ?_
      refine lk_iload_n dX9_through_13 rfl rfl ?_
      rcases k with _ | k
      ·
        refine lk_callV (o := 1) (as := [lk_vi (nI (b))]) (S := []) dX9_through_14 rfl vX9_lockOf rfl lX9_151 rfl rfl (Nat.le_of_ble_eq_true rfl) (tX9_lockOf_dn0 l X (d + 2) W τ (b := (b)) (V := V1) (T := U1) (hb := hb12) (n := n) (hV := hc.1) (hu := ((hx (90 + b) (by omega)).trans hu)) (hr := hre)) ?_
        refine lk_k3 ?_
        refine lk_cast (pc' := 17) (S' := [lk_vi (-2)]) rfl rfl rfl ?_
        refine lk_bipush (v := (-2)) dX9_through_17 (by decide) ?_
        refine lk_icmp_eq (tgt := 37) dX9_through_19 (by decide) (fun hh2 => ?_) (fun hh2 => absurd hh2 (fun q => q rfl))
        refine lk_iload_n dX9_through_37 rfl rfl ?_
        refine lk_iret .int dX9_through_38 rfl rfl ?_
        rw [hQ]
        simp only [List.range_zero, List.reverse_nil, lk_trv] at hI
        rw [hI]
        exact ⟨by rw [Nat.zero_add], rfl, W, rfl, hWf, fun x h1 => hx x h1, (by
          show W 1 0 (102 + b) = _
          rw [hre]
          
          rw [Nat.zero_add, lk_dnr (by omega) (by omega)]; congr 1; omega), ⟨hWk.1, hWk.2⟩⟩
      ·
        have hkn : k < n := by omega
        have er : (List.range (k + 1)).reverse = k :: (List.range k).reverse := by rw [List.range_succ]; simp
        rw [er] at hI
        refine lk_callV (o := 1) (as := [lk_vi (nI (b))]) (S := []) dX9_through_14 rfl vX9_lockOf rfl lX9_151 rfl rfl (Nat.le_of_ble_eq_true rfl) (tX9_lockOf_dn l X (d + 2) W τ (b := (b)) (V := V1) (T := U1) (hb := hb12) (n := n) (k := k) (hV := hc.1) (hk := hkn) (hu := ((hx (90 + b) (by omega)).trans hu)) (hr := hre)) ?_
        refine lk_k3 ?_
        refine lk_cast (pc' := 17) (S' := [lk_vi (nI (k))]) rfl rfl rfl ?_
        refine lk_bipush (v := (-2)) dX9_through_17 (by decide) ?_
        refine lk_icmp_eq (tgt := 37) dX9_through_19 (by decide) (fun hh3 => absurd hh3 (lk_nim2 (by omega))) (fun hh3 => ?_)
        refine lk_aload_n dX9_through_22 rfl rfl ?_
        refine lk_iload_n dX9_through_23 rfl rfl ?_
        refine lk_iconst (v := 1) dX9_through_24 (by decide) ?_
        rcases hp : lk_pas V1 k false z with V2 | q
        ·
          refine lk_callV (o := 1) (as := [lk_vi (nI (b)), lk_vi 1]) (S := []) dX9_through_25 rfl vX9_boatGoes rfl lX9_159 rfl rfl (Nat.le_of_ble_eq_true rfl) (tX9_boatGoes_dn1_ok l X d W τ (b := (b)) (V := V1) (T := U1) (hb := hb12) (n := n) (k := k) (z := z) (hV := hc.1) (hr := hc.2.1) (hk := hkn) (hu := ((hx (90 + b) (by omega)).trans hu)) (hre := hre) (hs := ((hx (66 + b) (by omega)).trans hs)) (hz := hz) (hz9 := hz9) (W := V2) (h := hp)) ?_
          refine lk_k3 ?_
          refine lk_cast (pc' := 28) (S' := [lk_vi 1]) rfl rfl rfl ?_
          refine lk_if_eq (tgt := 37) dX9_through_28 (by decide) (fun hh4 => absurd hh4 (by decide)) (fun hh4 => ?_)
          refine lk_iincN (a := i) (m := 1) (L' := [(0, lk_vr 1 0), (1, lk_vi (nI (b))), (2, lk_vi (nI (i + 1)))]) dX9_through_31 rfl rfl (by decide +kernel) rfl ?_
          refine lk_goto (tgt := 12) dX9_through_34 (by decide) ?_
          simp only [lk_trv, hp] at hI
          exact ih k (i + 1) ((lk_up (lk_up W 1 6 0 (V1 6 (k + 1) - V2 6 (k + 1))) 1 0 (102 + (b)) (nI (k)))) V2 (lk_tad U1 (V1 6 (k + 1) - V2 6 (k + 1))) (by omega) (by omega) (lk_all_pas hc hkn hz hz9 hp) (lk_fx_up (lk_fx_up hWf (by decide)) (by decide)) (fun x h1 => by simp only [lk_up]; rw [if_neg (fun z => h1 z.2.2), if_neg (by simp)]; exact hx x h1) (by simp [lk_up]) ⟨hWk.1, hWk.2⟩ (by rw [hI]; congr 1 <;> omega) (by omega)
        ·
          refine lk_callV (o := 1) (as := [lk_vi (nI (b)), lk_vi 1]) (S := []) dX9_through_25 rfl vX9_boatGoes rfl lX9_159 rfl rfl (Nat.le_of_ble_eq_true rfl) (tX9_boatGoes_dn1_no l X d W τ (b := (b)) (V := V1) (T := U1) (hb := hb12) (n := n) (k := k) (z := z) (hV := hc.1) (hr := hc.2.1) (hk := hkn) (hu := ((hx (90 + b) (by omega)).trans hu)) (hre := hre) (hs := ((hx (66 + b) (by omega)).trans hs)) (hz := hz) (hz9 := hz9) (q := q) (h := hp)) ?_
          refine lk_k5 (fun s1 => ?_)
          refine lk_cast (pc' := 28) (S' := [lk_vi 0]) rfl rfl rfl ?_
          refine lk_sg (σ' := (lk_ms (lk_cau (lk_up (lk_bar W q) 1 6 0 s1) k q) V1 U1)) rfl ?_
          refine lk_if_eq (tgt := 37) dX9_through_28 (by decide) (fun hh5 => ?_) (fun hh5 => absurd hh5 (by decide))
          refine lk_iload_n dX9_through_37 rfl rfl ?_
          refine lk_iret .int dX9_through_38 rfl rfl ?_
          rw [hQ]
          simp only [lk_trv, hp] at hI
          rw [hI]
          exact ⟨by rw [Nat.zero_add], rfl, (lk_cau (lk_up (lk_bar W q) 1 6 0 s1) k q), rfl, (lk_fx_cau (lk_fx_up (lk_fx_bar hWf (by decide) (by decide) (by decide)) (by decide)) (by decide) (by decide)), fun x h1 => hx x h1, (by
            show W 1 0 (102 + b) = _
            rw [hre]
            
            rw [Nat.zero_add, lk_dnr (by omega) (by omega)]; congr 1; omega), ⟨rfl, rfl, rfl, rfl, rfl⟩⟩
  exact LP12 (a + 1) a 0 σ V T han (by omega) ha (lk_fx_rf _ _) (fun _ _ => rfl) hr0 ⟨rfl, rfl⟩ (by simp [lk_lks]) (by omega)

set_option maxHeartbeats 1000000 in
set_option maxRecDepth 100000 in
theorem tX9_costs_dn (l : Launch) (X : lk_G) (d : Nat) (σ : lk_N) (τ : lk_T) (V T : lk_O) (n nf b : Nat) (hn : σ 1 0 114 = nI nf) (hb : b < nf) (hn12 : nf ≤ 12) (ha : lk_all V n) (a : Nat) (z : Int32) (hu : σ 1 0 (90 + b) = 0) (hr0 : σ 1 0 (102 + b) = nI a) (han : a ≤ n) (hs : σ 1 0 (66 + b) = z) (hz : 0 ≤ z.toInt) (hz9 : z.toInt ≤ 9) : lk_Mt l X mX9_costs (d + 5) [lk_vr 1 0, lk_vi (nI (b))] (lk_ms σ V T) τ (fun rr σ1 τ1 => rr = some (lk_vi (V 6 n - (lk_trv false z (lk_lks false a n) V T).2.2.1 6 n)) ∧ τ1 = τ ∧ ∃ W : lk_N, σ1 = lk_ms W V T ∧ (lk_fx [2, 6, 7, 8, 9, 10, 11, 18, 19, 20, 21, 22, 23] σ W ∧ lk_kz σ W none)) := by
  refine lk_met (L := [(0, lk_vr 1 0), (1, lk_vi (nI (b)))]) (by decide +kernel) (Nat.le_of_ble_eq_true rfl) rfl ?_
  obtain ⟨Q, hQ⟩ : ∃ Q : lk_Q, Q = fun rr σ1 τ1 => rr = some (lk_vi (V 6 n - (lk_trv false z (lk_lks false a n) V T).2.2.1 6 n)) ∧ τ1 = τ ∧ ∃ W : lk_N, σ1 = lk_ms W V T ∧ (lk_fx [2, 6, 7, 8, 9, 10, 11, 18, 19, 20, 21, 22, 23] σ W ∧ lk_kz σ W none) := ⟨_, rfl⟩
  rw [← hQ]
  have hb12 : b < 12 := by omega
  have hn6 := ha.1.2.2.1
  refine lk_aload_n dX9_costs_0 rfl rfl ?_
  refine lk_iload_n dX9_costs_1 rfl rfl ?_
  refine lk_callV (o := 1) (as := [lk_vi (nI (b))]) (S := []) dX9_costs_2 rfl vX9_isBoat rfl lX9_112 rfl rfl (Nat.le_of_ble_eq_true rfl) (tX9_isBoat l X (d + 3) (lk_ms σ V T) τ (k := (nI (b))) ) ?_
  refine lk_k3 ?_
  refine lk_cast (pc' := 5) (S' := [lk_vi (if (0 : Int32) ≤ (nI (b)) ∧ (nI (b)) ≤ (lk_ms σ V T) 1 0 114 - 1 then 1 else 0)]) rfl rfl rfl ?_
  refine lk_if_neB (tgt := 11) dX9_costs_5 (by decide) (fun hh1 => ?_) (fun hh1 => absurd hh1 (fun q => q (by rw [lk_rB (by decide)]; exact lk_isb hn hb hn12)))
  refine lk_aload_n dX9_costs_11 rfl rfl ?_
  refine lk_getR (f := 0) dX9_costs_12 rfl fX9_9 (by decide) (by decide) ?_
  refine lk_aload_n dX9_costs_15 rfl rfl ?_
  refine lk_getR (f := 2) dX9_costs_16 rfl fX9_18 (by decide) (by decide) ?_
  refine lk_callS (as := [lk_vr 1 1, lk_vr 1 3]) (S := []) dX9_costs_19 rfl vX9_pours rfl lX9_105 (Nat.le_of_ble_eq_true rfl) (tX9_pours_02ms l X (d + 4) σ τ (V := V) (T := T) ) ?_
  refine lk_k3 ?_
  refine lk_cast (pc' := 22) (S' := []) rfl rfl rfl ?_
  refine lk_bipush (v := 24) dX9_costs_22 (by decide) ?_
  refine lk_aload_n dX9_costs_24 rfl rfl ?_
  refine lk_getR (f := 0) dX9_costs_25 rfl fX9_9 (by decide) (by decide) ?_
  refine lk_bipush (v := 53) dX9_costs_28 (by decide) ?_
  refine lk_ialdN (f := 0) (i := 53) dX9_costs_30 rfl (by decide) rfl (by omega) (by decide) ?_
  refine lk_eqtop (y := (nI (n))) ((lk_r0 rfl rfl).trans ha.1.1) ?_
  refine lk_iaddN (a := 24) (b := n) dX9_costs_31 ?_
  refine lk_istore_n (L' := [(0, lk_vr 1 0), (1, lk_vi (nI (b))), (2, lk_vi (nI (24 + n)))]) dX9_costs_32 rfl (by decide +kernel) rfl ?_
  refine lk_aload_n dX9_costs_33 rfl rfl ?_
  refine lk_getR (f := 0) dX9_costs_34 rfl fX9_9 (by decide) (by decide) ?_
  refine lk_iload_n dX9_costs_37 rfl rfl ?_
  refine lk_ialdN (f := 0) (i := 24 + n) dX9_costs_38 rfl (by decide) rfl (by omega) (by decide) ?_
  refine lk_eqtop (y := (V 6 (n))) (lk_r6 (by omega) (by omega)) ?_
  refine lk_istore_n (L' := [(0, lk_vr 1 0), (1, lk_vi (nI (b))), (2, lk_vi (nI (24 + n))), (3, lk_vi (V 6 (n)))]) dX9_costs_39 rfl (by decide +kernel) rfl ?_
  refine lk_iconst (v := 1) dX9_costs_40 (by decide) ?_
  refine lk_istore (L' := [(0, lk_vr 1 0), (1, lk_vi (nI (b))), (2, lk_vi (nI (24 + n))), (3, lk_vi (V 6 (n))), (4, lk_vi 1)]) dX9_costs_41 (by decide +kernel) rfl ?_
  have LP43 : ∀ (fu : Nat) (k i : Nat) (W : lk_N) (V1 U1 : lk_O), k ≤ n → lk_all V1 n → lk_fx [0, 6, 7, 8, 9, 10, 11, 18, 19, 20, 21, 22, 23] (lk_lay σ V T) W → (∀ x, ¬ x = 102 + b → W 1 0 x = σ 1 0 x) → W 1 0 (102 + b) = nI k → lk_kz (lk_lay σ V T) W none → (lk_trv false z (lk_lks false a n) V T) = ((lk_trv false z (List.range k).reverse V1 U1).1 + i, (lk_trv false z (List.range k).reverse V1 U1).2) → k < fu → lk_W l X mX9_costs (d + 5) 43 [(0, lk_vr 1 0), (1, lk_vi (nI (b))), (2, lk_vi (nI (24 + n))), (3, lk_vi (V 6 n)), (4, lk_vi 1)] [] (lk_ms W V1 T) τ Q := by
    intro fu
    induction fu with
    | zero => intro k i W V1 U1 hk hc hWf hx hre hWk hI hfu; exact absurd hfu (by omega)
    | succ fu ih =>
      intro k i W V1 U1 hk hc hWf hx hre hWk hI hfu
      refine lk_iload dX9_costs_43 rfl ?_
      refine lk_if_eq (tgt := 69) dX9_costs_45 (by decide) (fun hh2 => absurd hh2 (by decide)) (fun hh2 => ?_)
      refine lk_aload_n dX9_costs_48 rfl rfl ?_
      refine lk_iload_n dX9_costs_49 rfl rfl ?_
      rcases k with _ | k
      ·
        refine lk_callV (o := 1) (as := [lk_vi (nI (b))]) (S := []) dX9_costs_50 rfl vX9_lockOf rfl lX9_151 rfl rfl (Nat.le_of_ble_eq_true rfl) (tX9_lockOf_dn0 l X (d + 2) W τ (b := (b)) (V := V1) (T := T) (hb := hb12) (n := n) (hV := hc.1) (hu := ((hx (90 + b) (by omega)).trans hu)) (hr := hre)) ?_
        refine lk_k3 ?_
        refine lk_cast (pc' := 53) (S' := [lk_vi (-2)]) rfl rfl rfl ?_
        refine lk_bipush (v := (-2)) dX9_costs_53 (by decide) ?_
        refine lk_icmp_eq (tgt := 69) dX9_costs_55 (by decide) (fun hh3 => ?_) (fun hh3 => absurd hh3 (fun q => q rfl))
        refine lk_iload_n dX9_costs_69 rfl rfl ?_
        refine lk_aload_n dX9_costs_70 rfl rfl ?_
        refine lk_getR (f := 0) dX9_costs_71 rfl fX9_9 (by decide) (by decide) ?_
        refine lk_iload_n dX9_costs_74 rfl rfl ?_
        refine lk_ialdN (f := 0) (i := 24 + n) dX9_costs_75 rfl (by decide) rfl (by omega) (by decide) ?_
        refine lk_eqtop (y := (V1 6 (n))) (lk_r6 (by omega) (by omega)) ?_
        refine lk_isub dX9_costs_76 ?_
        refine lk_istore (L' := [(0, lk_vr 1 0), (1, lk_vi (nI (b))), (2, lk_vi (nI (24 + n))), (3, lk_vi (V 6 n)), (4, lk_vi 1), (5, lk_vi ((V 6 n) - (V1 6 (n))))]) dX9_costs_77 (by decide +kernel) rfl ?_
        have hWs : lk_fx [0, 6, 7, 8, 9, 10, 11, 18, 19, 20, 21, 22, 23] (lk_lay σ V T) W := hWf
        refine lk_aload_n dX9_costs_79 rfl rfl ?_
        refine lk_getR (f := 2) dX9_costs_80 rfl fX9_18 (by decide) (by decide) ?_
        refine lk_aload_n dX9_costs_83 rfl rfl ?_
        refine lk_getR (f := 0) dX9_costs_84 rfl fX9_9 (by decide) (by decide) ?_
        refine lk_callS (as := [lk_vr 1 3, lk_vr 1 1]) (S := []) dX9_costs_87 rfl vX9_pours rfl lX9_105 (Nat.le_of_ble_eq_true rfl) (tX9_pours_20ms l X (d + 4) W τ (V := V1) (T := T) (V0 := V) (T0 := T) (R := σ 1 0) (hA := fun j _ => lk_lay_w hWs j)) ?_
        refine lk_k3 ?_
        refine lk_cast (pc' := 90) (S' := []) rfl rfl rfl ?_
        refine lk_iload dX9_costs_90 rfl ?_
        refine lk_iret .int dX9_costs_92 rfl rfl ?_
        rw [hQ]
        simp only [List.range_zero, List.reverse_nil, lk_trv] at hI
        rw [hI]
        exact ⟨rfl, rfl, (lk_sw W 1 0 (σ 1 0)), rfl, lk_fx_th hWs, lk_kz_th ⟨hWk.1, hWk.2⟩⟩
      ·
        have hkn : k < n := by omega
        have er : (List.range (k + 1)).reverse = k :: (List.range k).reverse := by rw [List.range_succ]; simp
        rw [er] at hI
        refine lk_callV (o := 1) (as := [lk_vi (nI (b))]) (S := []) dX9_costs_50 rfl vX9_lockOf rfl lX9_151 rfl rfl (Nat.le_of_ble_eq_true rfl) (tX9_lockOf_dn l X (d + 2) W τ (b := (b)) (V := V1) (T := T) (hb := hb12) (n := n) (k := k) (hV := hc.1) (hk := hkn) (hu := ((hx (90 + b) (by omega)).trans hu)) (hr := hre)) ?_
        refine lk_k3 ?_
        refine lk_cast (pc' := 53) (S' := [lk_vi (nI (k))]) rfl rfl rfl ?_
        refine lk_bipush (v := (-2)) dX9_costs_53 (by decide) ?_
        refine lk_icmp_eq (tgt := 69) dX9_costs_55 (by decide) (fun hh4 => absurd hh4 (lk_nim2 (by omega))) (fun hh4 => ?_)
        refine lk_aload_n dX9_costs_58 rfl rfl ?_
        refine lk_iload_n dX9_costs_59 rfl rfl ?_
        refine lk_iconst (v := 0) dX9_costs_60 (by decide) ?_
        rcases hp : lk_pas V1 k false z with V2 | q
        ·
          refine lk_callV (o := 1) (as := [lk_vi (nI (b)), lk_vi 0]) (S := []) dX9_costs_61 rfl vX9_boatGoes rfl lX9_159 rfl rfl (Nat.le_of_ble_eq_true rfl) (tX9_boatGoes_dn0_ok l X d W τ (b := (b)) (V := V1) (T := T) (hb := hb12) (n := n) (k := k) (z := z) (hV := hc.1) (hr := hc.2.1) (hk := hkn) (hu := ((hx (90 + b) (by omega)).trans hu)) (hre := hre) (hs := ((hx (66 + b) (by omega)).trans hs)) (W := V2) (h := hp)) ?_
          refine lk_k3 ?_
          refine lk_cast (pc' := 64) (S' := [lk_vi 1]) rfl rfl rfl ?_
          refine lk_istore (L' := [(0, lk_vr 1 0), (1, lk_vi (nI (b))), (2, lk_vi (nI (24 + n))), (3, lk_vi (V 6 n)), (4, lk_vi 1)]) dX9_costs_64 (by decide +kernel) rfl ?_
          refine lk_goto (tgt := 43) dX9_costs_66 (by decide) ?_
          simp only [lk_trv, hp] at hI
          exact ih k (i + 1) ((lk_up (lk_up W 1 6 0 (V1 6 (k + 1) - V2 6 (k + 1))) 1 0 (102 + (b)) (nI (k)))) V2 (lk_tad U1 (V1 6 (k + 1) - V2 6 (k + 1))) (by omega) (lk_all_pas hc hkn hz hz9 hp) (lk_fx_up (lk_fx_up hWf (by decide)) (by decide)) (fun x h1 => by simp only [lk_up]; rw [if_neg (fun z => h1 z.2.2), if_neg (by simp)]; exact hx x h1) (by simp [lk_up]) ⟨hWk.1, hWk.2⟩ (by rw [hI]; congr 1 <;> omega) (by omega)
        ·
          refine lk_callV (o := 1) (as := [lk_vi (nI (b)), lk_vi 0]) (S := []) dX9_costs_61 rfl vX9_boatGoes rfl lX9_159 rfl rfl (Nat.le_of_ble_eq_true rfl) (tX9_boatGoes_dn0_no l X d W τ (b := (b)) (V := V1) (T := T) (hb := hb12) (n := n) (k := k) (z := z) (hV := hc.1) (hr := hc.2.1) (hk := hkn) (hu := ((hx (90 + b) (by omega)).trans hu)) (hre := hre) (hs := ((hx (66 + b) (by omega)).trans hs)) (q := q) (h := hp)) ?_
          refine lk_k5 (fun s1 => ?_)
          refine lk_cast (pc' := 64) (S' := [lk_vi 0]) rfl rfl rfl ?_
          refine lk_sg (σ' := (lk_ms (lk_up (lk_bar W q) 1 6 0 s1) V1 T)) rfl ?_
          refine lk_istore (L' := [(0, lk_vr 1 0), (1, lk_vi (nI (b))), (2, lk_vi (nI (24 + n))), (3, lk_vi (V 6 n)), (4, lk_vi 0)]) dX9_costs_64 (by decide +kernel) rfl ?_
          refine lk_goto (tgt := 43) dX9_costs_66 (by decide) ?_
          refine lk_iload dX9_costs_43 rfl ?_
          refine lk_if_eq (tgt := 69) dX9_costs_45 (by decide) (fun hh5 => ?_) (fun hh5 => absurd hh5 (by decide))
          refine lk_iload_n dX9_costs_69 rfl rfl ?_
          refine lk_aload_n dX9_costs_70 rfl rfl ?_
          refine lk_getR (f := 0) dX9_costs_71 rfl fX9_9 (by decide) (by decide) ?_
          refine lk_iload_n dX9_costs_74 rfl rfl ?_
          refine lk_ialdN (f := 0) (i := 24 + n) dX9_costs_75 rfl (by decide) rfl (by omega) (by decide) ?_
          refine lk_eqtop (y := (V1 6 (n))) (lk_r6 (by omega) (by omega)) ?_
          refine lk_isub dX9_costs_76 ?_
          refine lk_istore (L' := [(0, lk_vr 1 0), (1, lk_vi (nI (b))), (2, lk_vi (nI (24 + n))), (3, lk_vi (V 6 n)), (4, lk_vi 0), (5, lk_vi ((V 6 n) - (V1 6 (n))))]) dX9_costs_77 (by decide +kernel) rfl ?_
          have hWs : lk_fx [0, 6, 7, 8, 9, 10, 11, 18, 19, 20, 21, 22, 23] (lk_lay σ V T) (lk_up (lk_bar W q) 1 6 0 s1) := (lk_fx_up (lk_fx_bar hWf (by decide) (by decide) (by decide)) (by decide))
          refine lk_aload_n dX9_costs_79 rfl rfl ?_
          refine lk_getR (f := 2) dX9_costs_80 rfl fX9_18 (by decide) (by decide) ?_
          refine lk_aload_n dX9_costs_83 rfl rfl ?_
          refine lk_getR (f := 0) dX9_costs_84 rfl fX9_9 (by decide) (by decide) ?_
          refine lk_callS (as := [lk_vr 1 3, lk_vr 1 1]) (S := []) dX9_costs_87 rfl vX9_pours rfl lX9_105 (Nat.le_of_ble_eq_true rfl) (tX9_pours_20ms l X (d + 4) (lk_up (lk_bar W q) 1 6 0 s1) τ (V := V1) (T := T) (V0 := V) (T0 := T) (R := σ 1 0) (hA := fun j _ => lk_lay_w hWs j)) ?_
          refine lk_k3 ?_
          refine lk_cast (pc' := 90) (S' := []) rfl rfl rfl ?_
          refine lk_iload dX9_costs_90 rfl ?_
          refine lk_iret .int dX9_costs_92 rfl rfl ?_
          rw [hQ]
          simp only [lk_trv, hp] at hI
          rw [hI]
          exact ⟨rfl, rfl, (lk_sw (lk_up (lk_bar W q) 1 6 0 s1) 1 0 (σ 1 0)), rfl, lk_fx_th hWs, lk_kz_th ⟨hWk.1, hWk.2⟩⟩
  exact LP43 (a + 1) a 0 (lk_lay σ V T) V T han ha (lk_fx_rf _ _) (fun _ _ => rfl) hr0 ⟨rfl, rfl⟩ (by simp [lk_lks]) (by omega)
