/-- the rows read so far, put into the fleet -/
def lk_ff (P : lk_O) (n : Nat) (as : Nat → Nat) (B : lk_O) (nb : Nat) : Nat → lk_O × Nat
  | 0 => (B, nb)
  | i + 1 => (lk_fput (lk_ff P n as B nb i).1 (lk_ff P n as B nb i).2 (lk_rdw P n (as i)), lk_fputn (lk_ff P n as B nb i).1 (lk_ff P n as B nb i).2 (lk_rdw P n (as i) 0))
theorem lk_ff_e (P : lk_O) (n : Nat) (as bs : Nat → Nat) (B : lk_O) (nb : Nat) : ∀ i, (∀ x, x < i → as x = bs x) → lk_ff P n as B nb i = lk_ff P n bs B nb i
  | 0, _ => rfl
  | i + 1, h => by
    simp only [lk_ff]
    rw [lk_ff_e P n as bs B nb i (fun x hx => h x (by omega)), h i (by omega)]
theorem lk_fputm_le (B : lk_O) (n : Nat) (w : Int32) : n ≤ lk_fputn B n w ∧ lk_fputn B n w ≤ n + 1 := by unfold lk_fputn; split <;> omega
theorem lk_ff_mono (P : lk_O) (n : Nat) (as : Nat → Nat) (B : lk_O) (nb i : Nat) : ∀ m, (lk_ff P n as B nb i).2 ≤ (lk_ff P n as B nb (i + m)).2
  | 0 => Nat.le_refl _
  | m + 1 => Nat.le_trans (lk_ff_mono P n as B nb i m) (lk_fputm_le _ _ _).1
theorem lk_ff_5 (P : lk_O) (n : Nat) (as : Nat → Nat) (B : lk_O) (nb : Nat) (h : B 5 0 = nI nb) : ∀ i, (lk_ff P n as B nb i).1 5 0 = nI (lk_ff P n as B nb i).2
  | 0 => h
  | i + 1 => lk_fput_5 _ _ (lk_ff_5 P n as B nb h i)
theorem lk_rdnm_ge (P : lk_O) (n : Nat) : ∀ m a v, a ≤ (lk_rdn P n m a v).2
  | 0, a, v => Nat.le_refl _
  | m + 1, a, v => by
    unfold lk_rdn
    split
    · exact Nat.le_trans (by omega) (lk_rdnm_ge P n m (a + 1) _)
    · exact lk_rdnm_ge P n m a _
theorem lk_rdbm_ge (P : lk_O) (n a : Nat) (m : Int32) (h : (lk_rdb P n a m).1 = true) : a + 5 ≤ (lk_rdb P n a m).2 := by
  have h1 : a + 1 ≤ (lk_rdn P n 4 a 0).2 := by
    have hz : ¬ (lk_rdn P n 4 a 0).1 = 0 := by
      intro z
      unfold lk_rdb at h
      rw [if_pos z] at h; cases h
    have hl : lk_ltr P n a := Decidable.not_not.mp (fun q => hz ((lk_rdnm_z P n a).mpr q))
    show a + 1 ≤ (lk_rdn P n (3 + 1) a 0).2
    unfold lk_rdn
    rw [if_pos hl]
    exact lk_rdnm_ge P n 3 (a + 1) _
  unfold lk_rdb at h ⊢
  split at h
  · cases h
  · rename_i c1
    rw [if_neg c1]
    split at h
    · cases h
    · rename_i c2
      rw [if_neg c2]
      split at h
      · cases h
      · rename_i c3
        rw [if_neg c3]
        split at h
        · cases h
        · rename_i c4
          rw [if_neg c4]
          split at h
          · cases h
          · rename_i c5
            rw [if_neg c5]
            show a + 5 ≤ (lk_rdn P n 4 a 0).2 + 1 + 1 + 1 + 1
            omega
theorem lk_fgom_lt {P : lk_O} {n a : Nat} {m : Int32} (h : lk_fgo P n a m = true) : a < n := by
  rcases Nat.lt_or_ge a n with q | q
  · exact q
  · unfold lk_fgo lk_cur at h
    rw [if_neg (by omega)] at h
    exact absurd (Bool.and_eq_true_iff.mp h).1 (by decide)
theorem lk_rdbm_le (P : lk_O) (n a : Nat) (m : Int32) (h : (lk_rdb P n a m).1 = true) : (lk_rdb P n a m).2 ≤ n := by
  unfold lk_rdb at h ⊢
  split at h
  · cases h
  · rename_i c1
    rw [if_neg c1]
    split at h
    · cases h
    · rename_i c2
      rw [if_neg c2]
      split at h
      · cases h
      · rename_i c3
        rw [if_neg c3]
        split at h
        · cases h
        · rename_i c4
          rw [if_neg c4]
          split at h
          · cases h
          · rename_i c5
            rw [if_neg c5]
            exact lk_fgom_lt (by simpa using c5)
theorem lk_rdb_le2 (P : lk_O) {n : Nat} (hn : n ≤ 60) {a : Nat} (ha : a ≤ n) (m : Int32) : (lk_rdb P n a m).2 ≤ 70 := by
  have h2 := lk_rdn_2 P hn ha
  unfold lk_rdb
  split
  · show (lk_rdn P n 4 a 0).2 ≤ 70; omega
  · split
    · show (lk_rdn P n 4 a 0).2 ≤ 70; omega
    · split
      · show (lk_rdn P n 4 a 0).2 + 1 ≤ 70; omega
      · split
        · show (lk_rdn P n 4 a 0).2 + 1 + 1 ≤ 70; omega
        · split
          · show (lk_rdn P n 4 a 0).2 + 1 + 1 + 1 ≤ 70; omega
          · show (lk_rdn P n 4 a 0).2 + 1 + 1 + 1 + 1 ≤ 70; omega
set_option maxHeartbeats 1000000 in
set_option maxRecDepth 100000 in
theorem tX9_pours_02mb (l : Launch) (X : lk_G) (d : Nat) (σ : lk_N) (τ : lk_T) (B : lk_O)  : lk_Mt l X mX9_pours d [lk_vr 1 1, lk_vr 1 3] (lk_mb σ B) τ (fun rr σ1 τ1 => rr = none ∧ σ1 = (lk_mb (lk_sw σ 1 2 (lk_mbw B (σ 1 0))) B) ∧ τ1 = τ) := by
  refine lk_met (L := [(0, lk_vr 1 1), (1, lk_vr 1 3)]) (by decide +kernel) (Nat.le_of_ble_eq_true rfl) rfl ?_
  obtain ⟨Q, hQ⟩ : ∃ Q : lk_Q, Q = fun rr σ1 τ1 => rr = none ∧ σ1 = (lk_mb (lk_sw σ 1 2 (lk_mbw B (σ 1 0))) B) ∧ τ1 = τ := ⟨_, rfl⟩
  rw [← hQ]
  refine lk_iconst (v := 0) dX9_pours_0 (by decide) ?_
  refine lk_istore_n (L' := [(0, lk_vr 1 1), (1, lk_vr 1 3), (2, lk_vi 0)]) dX9_pours_1 rfl (by decide +kernel) rfl ?_
  have LP2 : ∀ (fu : Nat) (i : Nat), i ≤ 235 → 235 - i < fu → lk_W l X mX9_pours d 2 [(0, lk_vr 1 1), (1, lk_vr 1 3), (2, lk_vi (nI (i)))] [] (lk_cp (lk_mb σ B) 1 0 1 2 i) τ Q := by
    intro fu
    induction fu with
    | zero => intro i hi hfu; exact absurd hfu (by omega)
    | succ fu ih =>
      intro i hi hfu
      refine lk_iload_n dX9_pours_2 rfl rfl ?_
      refine lk_sipush (v := 235) dX9_pours_3 (by decide) ?_
      refine lk_icmp_geN (a := i) (b := 235) (tgt := 21) dX9_pours_6 (by decide) (by omega) (by omega) (fun hh1 => ?_) (fun hh1 => ?_)
      ·
        have hi5 : i = 235 := by omega
        subst hi5
        refine lk_ext (σ' := lk_mb (lk_sw σ 1 2 (lk_mbw B (σ 1 0))) B) (fun o f j hin => ?_) ?_
        · by_cases ho : o = 1 ∧ f = 2
          · obtain ⟨rfl, rfl⟩ := ho
            have hj := lk_inr9 (Or.inr (Or.inr rfl)) hin
            rw [lk_bn (by decide)]
            simp only [lk_sw, lk_cp]
            simp [hj, lk_mb_r]
          · by_cases h0 : o = 1 ∧ f = 0
            · obtain ⟨rfl, rfl⟩ := h0
              simp [lk_cp, lk_mb_r]
              rfl
            · rw [lk_bn h0]
              simp only [lk_sw, lk_cp]
              rw [if_neg ho, if_neg (by intro z; first | exact ho z | exact ho ⟨z.1, z.2.1⟩), lk_bn h0]
        refine lk_vret dX9_pours_21 rfl ?_
        rw [hQ]
        exact ⟨by first | rfl | (simp [*]; done) | (simp_all; done) | grind, by first | rfl | (simp [*]; done), rfl⟩
      ·
        refine lk_aload_n dX9_pours_9 rfl rfl ?_
        refine lk_iload_n dX9_pours_10 rfl rfl ?_
        refine lk_aload_n dX9_pours_11 rfl rfl ?_
        refine lk_iload_n dX9_pours_12 rfl rfl ?_
        refine lk_ialdN (f := 0) (i := i) dX9_pours_13 rfl (by decide) rfl (by omega) (by decide) ?_
        refine lk_iastN (f := 2) (i := i) (v := ((lk_cp (lk_mb σ B) 1 0 1 2 i) 1 0 (i))) dX9_pours_14 rfl (by decide) rfl (by omega) (by decide) ?_
        refine lk_iincN (a := i) (m := 1) (L' := [(0, lk_vr 1 1), (1, lk_vr 1 3), (2, lk_vi (nI (i + 1)))]) dX9_pours_15 rfl rfl (by decide +kernel) rfl ?_
        refine lk_goto (tgt := 2) dX9_pours_18 (by decide) ?_
        rw [lk_cp_s (lk_mb σ B) (by decide)]
        exact ih (i + 1) (by omega) (by omega)
  refine lk_sg (lk_cp_0 (lk_mb σ B) 1 0 2) ?_
  exact LP2 236 0 (by omega) (by omega)

set_option maxHeartbeats 1000000 in
set_option maxRecDepth 100000 in
theorem tX9_pours_20mb (l : Launch) (X : lk_G) (d : Nat) (σ : lk_N) (τ : lk_T) (B : lk_O) (B0 : lk_O) (R : Nat → Int32) (hA : ∀ j, j < 235 → σ 1 2 j = lk_mbw B0 R j) : lk_Mt l X mX9_pours d [lk_vr 1 3, lk_vr 1 1] (lk_mb σ B) τ (fun rr σ1 τ1 => rr = none ∧ σ1 = (lk_mb (lk_sw σ 1 0 R) B0) ∧ τ1 = τ) := by
  refine lk_met (L := [(0, lk_vr 1 3), (1, lk_vr 1 1)]) (by decide +kernel) (Nat.le_of_ble_eq_true rfl) rfl ?_
  obtain ⟨Q, hQ⟩ : ∃ Q : lk_Q, Q = fun rr σ1 τ1 => rr = none ∧ σ1 = (lk_mb (lk_sw σ 1 0 R) B0) ∧ τ1 = τ := ⟨_, rfl⟩
  rw [← hQ]
  refine lk_iconst (v := 0) dX9_pours_0 (by decide) ?_
  refine lk_istore_n (L' := [(0, lk_vr 1 3), (1, lk_vr 1 1), (2, lk_vi 0)]) dX9_pours_1 rfl (by decide +kernel) rfl ?_
  have LP2 : ∀ (fu : Nat) (i : Nat), i ≤ 235 → 235 - i < fu → lk_W l X mX9_pours d 2 [(0, lk_vr 1 3), (1, lk_vr 1 1), (2, lk_vi (nI (i)))] [] (lk_cp (lk_mb σ B) 1 2 1 0 i) τ Q := by
    intro fu
    induction fu with
    | zero => intro i hi hfu; exact absurd hfu (by omega)
    | succ fu ih =>
      intro i hi hfu
      refine lk_iload_n dX9_pours_2 rfl rfl ?_
      refine lk_sipush (v := 235) dX9_pours_3 (by decide) ?_
      refine lk_icmp_geN (a := i) (b := 235) (tgt := 21) dX9_pours_6 (by decide) (by omega) (by omega) (fun hh1 => ?_) (fun hh1 => ?_)
      ·
        have hi5 : i = 235 := by omega
        subst hi5
        refine lk_ext (σ' := lk_mb (lk_sw σ 1 0 R) B0) (fun o f j hin => ?_) ?_
        · by_cases h0 : o = 1 ∧ f = 0
          · obtain ⟨rfl, rfl⟩ := h0
            have hj := lk_inr9 (Or.inl rfl) hin
            rw [lk_mb_r]
            simp only [lk_sw, lk_cp]
            simp [hj, lk_bn, hA j hj]
            rfl
          · rw [lk_bn h0]
            simp only [lk_sw, lk_cp]
            rw [if_neg h0, if_neg (by intro z; first | exact h0 z | exact h0 ⟨z.1, z.2.1⟩), lk_bn h0]
        refine lk_vret dX9_pours_21 rfl ?_
        rw [hQ]
        exact ⟨by first | rfl | (simp [*]; done) | (simp_all; done) | grind, by first | rfl | (simp [*]; done), rfl⟩
      ·
        refine lk_aload_n dX9_pours_9 rfl rfl ?_
        refine lk_iload_n dX9_pours_10 rfl rfl ?_
        refine lk_aload_n dX9_pours_11 rfl rfl ?_
        refine lk_iload_n dX9_pours_12 rfl rfl ?_
        refine lk_ialdN (f := 2) (i := i) dX9_pours_13 rfl (by decide) rfl (by omega) (by decide) ?_
        refine lk_iastN (f := 0) (i := i) (v := ((lk_cp (lk_mb σ B) 1 2 1 0 i) 1 2 (i))) dX9_pours_14 rfl (by decide) rfl (by omega) (by decide) ?_
        refine lk_iincN (a := i) (m := 1) (L' := [(0, lk_vr 1 3), (1, lk_vr 1 1), (2, lk_vi (nI (i + 1)))]) dX9_pours_15 rfl rfl (by decide +kernel) rfl ?_
        refine lk_goto (tgt := 2) dX9_pours_18 (by decide) ?_
        rw [lk_cp_s (lk_mb σ B) (by decide)]
        exact ih (i + 1) (by omega) (by omega)
  refine lk_sg (lk_cp_0 (lk_mb σ B) 1 2 0) ?_
  exact LP2 236 0 (by omega) (by omega)

set_option maxHeartbeats 1000000 in
set_option maxRecDepth 100000 in
theorem tX9_boats (l : Launch) (X : lk_G) (d : Nat) (σ : lk_N) (τ : lk_T) (B : lk_O) (nf : Nat) (hn : B 5 0 = nI nf) (hn12 : nf ≤ 12) (P : lk_O) (n : Nat) (hn60 : n ≤ 60) (htp : σ 1 12 0 = nI n) (hP : ∀ a, a < n → σ 1 13 a = P 0 a) (hr : ∀ a, a < n → 32 ≤ (P 0 a).toInt ∧ (P 0 a).toInt ≤ 126) (L : Nat) (hL : L ≤ 9) (hml : σ 1 0 53 = nI L) : lk_Mt l X mX9_boats (d + 4) [lk_vr 1 0] (lk_mb σ B) τ (fun rr σ1 τ1 => rr = some (lk_vi (lk_rbs P n (nI L) 60 1 0 B nf).1) ∧ τ1 = τ ∧ ∃ W : lk_N, σ1 = lk_mb W (if (lk_rbs P n (nI L) 60 1 0 B nf).2.1 = true then (lk_rbs P n (nI L) 60 1 0 B nf).2.2 else B) ∧ (lk_fx [2, 12, 14, 15, 16, 17] σ W ∧ W 1 12 0 = 0)) := by
  refine lk_met (L := [(0, lk_vr 1 0)]) (by decide +kernel) (Nat.le_of_ble_eq_true rfl) rfl ?_
  obtain ⟨Q, hQ⟩ : ∃ Q : lk_Q, Q = fun rr σ1 τ1 => rr = some (lk_vi (lk_rbs P n (nI L) 60 1 0 B nf).1) ∧ τ1 = τ ∧ ∃ W : lk_N, σ1 = lk_mb W (if (lk_rbs P n (nI L) 60 1 0 B nf).2.1 = true then (lk_rbs P n (nI L) 60 1 0 B nf).2.2 else B) ∧ (lk_fx [2, 12, 14, 15, 16, 17] σ W ∧ W 1 12 0 = 0) := ⟨_, rfl⟩
  rw [← hQ]
  obtain ⟨R, hR⟩ : ∃ R, R = lk_rbs P n (nI L) 60 1 0 B nf := ⟨_, rfl⟩
  rw [← hR] at hQ
  refine lk_aload_n dX9_boats_0 rfl rfl ?_
  refine lk_iconst (v := 0) dX9_boats_1 (by decide) ?_
  refine lk_putI (f := 14) dX9_boats_2 rfl fX9_72 (by decide) (by decide) ?_
  refine lk_sg (σ' := (lk_mb (lk_up σ 1 14 0 0) B)) (lk_bf (by decide)) ?_
  refine lk_aload_n dX9_boats_5 rfl rfl ?_
  refine lk_iconst (v := (-1)) dX9_boats_6 (by decide) ?_
  refine lk_putI (f := 15) dX9_boats_7 rfl fX9_69 (by decide) (by decide) ?_
  refine lk_sg (σ' := (lk_mb (lk_up (lk_up σ 1 14 0 0) 1 15 0 (-1)) B)) (lk_bf (by decide)) ?_
  refine lk_aload_n dX9_boats_10 rfl rfl ?_
  refine lk_iconst (v := 0) dX9_boats_11 (by decide) ?_
  refine lk_putI (f := 17) dX9_boats_12 rfl fX9_82 (by decide) (by decide) ?_
  refine lk_sg (σ' := (lk_mb (lk_up (lk_up (lk_up σ 1 14 0 0) 1 15 0 (-1)) 1 17 0 0) B)) (lk_bf (by decide)) ?_
  refine lk_aload_n dX9_boats_15 rfl rfl ?_
  rcases hb : (lk_rdb P n 0 (nI L)).1 with _ | _
  ·
    refine lk_callV (o := 1) (as := []) (S := []) dX9_boats_16 rfl vX9_readsBoat rfl lX9_102 rfl rfl (Nat.le_of_ble_eq_true rfl) (tX9_readsBoat l X d (lk_up (lk_up (lk_up σ 1 14 0 0) 1 15 0 (-1)) 1 17 0 0) τ (B := B) (P := P) (n := n) (hn60 := hn60) (htp := htp) (hP := hP) (a := 0) (ha := rfl) (han := by omega) (hf := rfl) (hr := hr) (L := L) (hL := hL) (hml := hml) (t := 0) (ht := rfl) (ht11 := by omega)) ?_
    refine lk_k4 (fun WB hWB => ?_)
    refine lk_cast (pc' := 19) (S' := []) rfl rfl rfl ?_
    refine lk_sg (σ' := (lk_mb WB B)) rfl ?_
    have hRb : R = (-100 - nI (lk_rdb P n 0 (nI L)).2, false, B) := by rw [hR, lk_rbs, if_neg (by rw [hb]; decide)]
    have hw15 : WB 1 15 0 = nI (lk_rdb P n 0 (nI L)).2 := hWB.2.2 hb
    have hwle : (lk_rdb P n 0 (nI L)).2 ≤ 70 := lk_rdb_le2 P hn60 (by omega) _
    have hwf : lk_fx [2, 12, 14, 15, 16, 17] σ WB := lk_fx_mo (S := [14, 15, 16, 17]) (lk_fx_tr (lk_fx_up (lk_fx_up (lk_fx_up (lk_fx_rf _ _) (by decide)) (by decide)) (by decide)) hWB.1) (by decide)
    refine lk_aload_n dX9_boats_19 rfl rfl ?_
    refine lk_bipush (v := 44) dX9_boats_20 (by decide) ?_
    refine lk_bipush (v := 44) dX9_boats_22 (by decide) ?_
    refine lk_callV (o := 1) (as := [lk_vi 44, lk_vi 44]) (S := []) dX9_boats_24 rfl vX9_isFrom rfl lX9_75 rfl rfl (Nat.le_of_ble_eq_true rfl) (tX9_isFrom_bad l X (d + 2) WB τ (lo := (44 : Int32)) (hi := (44 : Int32)) (B := B) (hf := by rw [hw15]; exact nI_pos' (by omega))) ?_
    refine lk_k3 ?_
    refine lk_cast (pc' := 27) (S' := [lk_vi 0]) rfl rfl rfl ?_
    refine lk_if_eq (tgt := 47) dX9_boats_27 (by decide) (fun hh1 => ?_) (fun hh1 => absurd hh1 (by decide))
    refine lk_aload_n dX9_boats_47 rfl rfl ?_
    refine lk_getIv (v := (nI ((lk_rdb P n 0 (nI L)).2))) (f := 15) dX9_boats_48 rfl fX9_69 (by decide) (by decide) ((lk_bn (by decide)).trans (by first | exact hw15 | exact hw15)) ?_
    refine lk_if_geN (a := (lk_rdb P n 0 (nI L)).2) (tgt := 69) dX9_boats_51 (by decide) (by omega) (fun hh2 => ?_) (fun hh2 => absurd hh2 (by omega))
    refine lk_aload_n dX9_boats_69 rfl rfl ?_
    refine lk_iconst (v := 0) dX9_boats_70 (by decide) ?_
    refine lk_putI (f := 12) dX9_boats_71 rfl fX9_65 (by decide) (by decide) ?_
    refine lk_sg (σ' := (lk_mb (lk_up WB 1 12 0 0) B)) (lk_bf (by decide)) ?_
    refine lk_aload_n dX9_boats_74 rfl rfl ?_
    refine lk_getIv (v := (nI ((lk_rdb P n 0 (nI L)).2))) (f := 15) dX9_boats_75 rfl fX9_69 (by decide) (by decide) ((lk_bn (by decide)).trans (by first | exact hw15 | exact hw15)) ?_
    refine lk_if_ltN (a := (lk_rdb P n 0 (nI L)).2) (tgt := 89) dX9_boats_78 (by decide) (by omega) (fun hh3 => absurd hh3 (by omega)) (fun hh3 => ?_)
    refine lk_bipush (v := (-100)) dX9_boats_81 (by decide) ?_
    refine lk_aload_n dX9_boats_83 rfl rfl ?_
    refine lk_getIv (v := (nI ((lk_rdb P n 0 (nI L)).2))) (f := 15) dX9_boats_84 rfl fX9_69 (by decide) (by decide) ((lk_bn (by decide)).trans (by first | exact hw15 | exact hw15)) ?_
    refine lk_isub dX9_boats_87 ?_
    refine lk_iret .int dX9_boats_88 rfl rfl ?_
    rw [hQ]
    first
      | (rw [hRb]; exact ⟨rfl, rfl, (lk_up WB 1 12 0 0), rfl, (lk_fx_up hwf (by decide)), rfl⟩)
      | (obtain ⟨E, hRb⟩ := hRb
         rw [hRb]; exact ⟨rfl, rfl, (lk_up WB 1 12 0 0), rfl, (lk_fx_up hwf (by decide)), rfl⟩)
  ·
    refine lk_callV (o := 1) (as := []) (S := []) dX9_boats_16 rfl vX9_readsBoat rfl lX9_102 rfl rfl (Nat.le_of_ble_eq_true rfl) (tX9_readsBoat l X d (lk_up (lk_up (lk_up σ 1 14 0 0) 1 15 0 (-1)) 1 17 0 0) τ (B := B) (P := P) (n := n) (hn60 := hn60) (htp := htp) (hP := hP) (a := 0) (ha := rfl) (han := by omega) (hf := rfl) (hr := hr) (L := L) (hL := hL) (hml := hml) (t := 0) (ht := rfl) (ht11 := by omega)) ?_
    refine lk_k4 (fun W1 hW1 => ?_)
    refine lk_cast (pc' := 19) (S' := []) rfl rfl rfl ?_
    refine lk_sg (σ' := (lk_mb W1 B)) rfl ?_
    have LP19 : ∀ (fu : Nat) (t p : Nat) (as : Nat → Nat) (W : lk_N), 1 ≤ t → 6 * t ≤ p + 1 → p ≤ n → lk_fx [14, 15, 16, 17] σ W → W 1 14 0 = nI p → W 1 15 0 = -1 → W 1 17 0 = nI t → (∀ i, i < t → ∀ f, f < 5 → W 1 16 (5 * i + f) = lk_rdw P n (as i) f) → R = (if n ≤ p then (if (lk_ff P n as B nf t).2 ≤ 12 then (nI t, true, (lk_ff P n as B nf t).1) else (-3, false, (lk_ff P n as B nf t).1)) else if lk_cur P n p = 44 then lk_rbs P n (nI L) (60 - t) (t + 1) (p + 1) (lk_ff P n as B nf t).1 (lk_ff P n as B nf t).2 else (-100 - nI p, false, (lk_ff P n as B nf t).1)) → 60 - t < fu → lk_W l X mX9_boats (d + 4) 19 [(0, lk_vr 1 0)] [] (lk_mb W B) τ Q := by
      intro fu
      induction fu with
      | zero => intro t p as W ht1 htp6 hpn0 hWf hW14 hW15 hW17 hW16 hI hfu; exact absurd hfu (by omega)
      | succ fu ih =>
        intro t p as W ht1 htp6 hpn0 hWf hW14 hW15 hW17 hW16 hI hfu
        refine lk_aload_n dX9_boats_19 rfl rfl ?_
        refine lk_bipush (v := 44) dX9_boats_20 (by decide) ?_
        refine lk_bipush (v := 44) dX9_boats_22 (by decide) ?_
        refine lk_callV (o := 1) (as := [lk_vi 44, lk_vi 44]) (S := []) dX9_boats_24 rfl vX9_isFrom rfl lX9_75 rfl rfl (Nat.le_of_ble_eq_true rfl) (tX9_isFrom_ok l X (d + 2) W τ (lo := (44 : Int32)) (hi := (44 : Int32)) (B := B) (P := P) (n := n) (hn60 := hn60) (htp := (hWf 1 12 0 (by decide)).trans htp) (hP := fun a h => (hWf 1 13 a (by decide)).trans (hP a h)) (a := p) (ha := hW14) (ha70 := by omega) (hf := hW15) (hlo := by decide)) ?_
        refine lk_k3 ?_
        refine lk_cast (pc' := 27) (S' := [lk_vi (if (44 : Int32) ≤ lk_cur P n p ∧ lk_cur P n p ≤ (44 : Int32) then 1 else 0)]) rfl rfl rfl ?_
        refine lk_if_eqB (tgt := 47) dX9_boats_27 (by decide) (fun hh4 => ?_) (fun hh4 => ?_)
        ·
          have hncm : ¬ (44 ≤ lk_cur P n p ∧ lk_cur P n p ≤ 44) := by assumption
          refine lk_aload_n dX9_boats_47 rfl rfl ?_
          refine lk_getIv (v := (-1)) (f := 15) dX9_boats_48 rfl fX9_69 (by decide) (by decide) ((lk_bn (by decide)).trans hW15) ?_
          refine lk_if_ge (tgt := 69) dX9_boats_51 (by decide) (fun hh5 => absurd hh5 (by decide)) (fun hh5 => ?_)
          refine lk_aload_n dX9_boats_54 rfl rfl ?_
          refine lk_getIv (v := (nI (p))) (f := 14) dX9_boats_55 rfl fX9_72 (by decide) (by decide) ((lk_bn (by decide)).trans hW14) ?_
          refine lk_aload_n dX9_boats_58 rfl rfl ?_
          refine lk_getIv (v := (nI (n))) (f := 12) dX9_boats_59 rfl fX9_65 (by decide) (by decide) ((lk_bn (by decide)).trans ((hWf 1 12 0 (by decide)).trans htp)) ?_
          refine lk_icmp_geN (a := p) (b := n) (tgt := 69) dX9_boats_62 (by decide) (by omega) (by omega) (fun hh6 => ?_) (fun hh6 => ?_)
          ·
            refine lk_aload_n dX9_boats_69 rfl rfl ?_
            refine lk_iconst (v := 0) dX9_boats_70 (by decide) ?_
            refine lk_putI (f := 12) dX9_boats_71 rfl fX9_65 (by decide) (by decide) ?_
            refine lk_sg (σ' := (lk_mb (lk_up W 1 12 0 0) B)) (lk_bf (by decide)) ?_
            refine lk_aload_n dX9_boats_74 rfl rfl ?_
            refine lk_getIv (v := (-1)) (f := 15) dX9_boats_75 rfl fX9_69 (by decide) (by decide) ((lk_bn (by decide)).trans hW15) ?_
            refine lk_if_lt (tgt := 89) dX9_boats_78 (by decide) (fun hh7 => ?_) (fun hh7 => absurd hh7 (fun q => q (by decide)))
            refine lk_aload_n dX9_boats_89 rfl rfl ?_
            refine lk_getR (f := 0) dX9_boats_90 rfl fX9_9 (by decide) (by decide) ?_
            refine lk_aload_n dX9_boats_93 rfl rfl ?_
            refine lk_getR (f := 2) dX9_boats_94 rfl fX9_18 (by decide) (by decide) ?_
            refine lk_callS (as := [lk_vr 1 1, lk_vr 1 3]) (S := []) dX9_boats_97 rfl vX9_pours rfl lX9_105 (Nat.le_of_ble_eq_true rfl) (tX9_pours_02mb l X (d + 3) (lk_up W 1 12 0 0) τ (B := B) ) ?_
            refine lk_k3 ?_
            refine lk_cast (pc' := 100) (S' := []) rfl rfl rfl ?_
            refine lk_iconst (v := 0) dX9_boats_100 (by decide) ?_
            refine lk_istore_n (L' := [(0, lk_vr 1 0), (1, lk_vi 0)]) dX9_boats_101 rfl (by decide +kernel) rfl ?_
            have LP102 : ∀ (fu : Nat) (k : Nat) (V : lk_N), k ≤ t → (lk_ff P n as B nf k).2 ≤ 12 → lk_fx [2, 12, 14, 15, 16, 17] σ V → V 1 12 0 = 0 → V 1 17 0 = nI t → (∀ i, i < t → ∀ f, f < 5 → V 1 16 (5 * i + f) = lk_rdw P n (as i) f) → (∀ j, V 1 2 j = lk_mbw B (σ 1 0) j) → t - k < fu → lk_W l X mX9_boats (d + 4) 102 [(0, lk_vr 1 0), (1, lk_vi (nI (k)))] [] (lk_mb V (lk_ff P n as B nf k).1) τ Q := by
              intro fu
              induction fu with
              | zero => intro k V hk hk12 hVf hV12 hV17 hV16 hV2 hfu; exact absurd hfu (by omega)
              | succ fu ih =>
                intro k V hk hk12 hVf hV12 hV17 hV16 hV2 hfu
                refine lk_iload_n dX9_boats_102 rfl rfl ?_
                refine lk_aload_n dX9_boats_103 rfl rfl ?_
                refine lk_getIv (v := (nI (t))) (f := 17) dX9_boats_104 rfl fX9_82 (by decide) (by decide) ((lk_bn (by decide)).trans hV17) ?_
                refine lk_icmp_geN (a := k) (b := t) (tgt := 138) dX9_boats_107 (by decide) (by omega) (by omega) (fun hh8 => ?_) (fun hh8 => ?_)
                ·
                  refine lk_aload_n dX9_boats_138 rfl rfl ?_
                  refine lk_getIv (v := (nI (t))) (f := 17) dX9_boats_139 rfl fX9_82 (by decide) (by decide) ((lk_bn (by decide)).trans hV17) ?_
                  refine lk_iret .int dX9_boats_142 rfl rfl ?_
                  rw [hQ]
                  have hkt : k = t := by omega
                  subst hkt
                  rw [hI, if_pos (by omega), if_pos hk12]
                  exact ⟨rfl, rfl, V, rfl, hVf, hV12⟩
                ·
                  refine lk_aload_n dX9_boats_110 rfl rfl ?_
                  refine lk_iload_n dX9_boats_111 rfl rfl ?_
                  rcases (show (lk_fold (lk_ff P n as B nf k).1 (lk_ff P n as B nf k).2 (lk_rdw P n (as k) 0) = true) ∨ (lk_fold (lk_ff P n as B nf k).1 (lk_ff P n as B nf k).2 (lk_rdw P n (as k) 0) = false ∧ (lk_ff P n as B nf k).2 < 12) ∨ (lk_fold (lk_ff P n as B nf k).1 (lk_ff P n as B nf k).2 (lk_rdw P n (as k) 0) = false ∧ (lk_ff P n as B nf k).2 = 12) by
                      rcases hfo : lk_fold (lk_ff P n as B nf k).1 (lk_ff P n as B nf k).2 (lk_rdw P n (as k) 0) with _ | _
                      · rcases Nat.lt_or_ge (lk_ff P n as B nf k).2 12 with q | q
                        · exact Or.inr (Or.inl ⟨rfl, q⟩)
                        · exact Or.inr (Or.inr ⟨rfl, by omega⟩)
                      · exact Or.inl rfl) with hfo | ⟨hfo, h12⟩ | ⟨hfo, h12⟩
                  ·
                    refine lk_callV (o := 1) (as := [lk_vi (nI (k))]) (S := []) dX9_boats_112 rfl vX9_comes rfl lX9_109 rfl rfl (Nat.le_of_ble_eq_true rfl) (tX9_comes_old l X (d + 2) V τ (k := (k)) (B := (lk_ff P n as B nf k).1) (nf := (lk_ff P n as B nf k).2) (hn := lk_ff_5 P n as B nf hn k) (hn12 := hk12) (hk := by omega) (r := lk_rdw P n (as k)) (hr := hV16 k (by omega)) (h := hfo)) ?_
                    refine lk_k3 ?_
                    refine lk_cast (pc' := 115) (S' := [lk_vi 1]) rfl rfl rfl ?_
                    refine lk_if_ne (tgt := 132) dX9_boats_115 (by decide) (fun hh9 => ?_) (fun hh9 => absurd hh9 (by decide))
                    refine lk_iincN (a := k) (m := 1) (L' := [(0, lk_vr 1 0), (1, lk_vi (nI (k + 1)))]) dX9_boats_132 rfl rfl (by decide +kernel) rfl ?_
                    refine lk_goto (tgt := 102) dX9_boats_135 (by decide) ?_
                    refine ih (k + 1) V (by omega) (by
                      show lk_fputn _ _ _ ≤ 12
                      unfold lk_fputn
                      first
                        | (rw [if_pos hfo]; exact hk12)
                        | (rw [if_neg (by rw [hfo]; decide)]; omega)) hVf hV12 hV17 hV16 hV2 (by omega)
                  ·
                    refine lk_callV (o := 1) (as := [lk_vi (nI (k))]) (S := []) dX9_boats_112 rfl vX9_comes rfl lX9_109 rfl rfl (Nat.le_of_ble_eq_true rfl) (tX9_comes_new l X (d + 2) V τ (k := (k)) (B := (lk_ff P n as B nf k).1) (nf := (lk_ff P n as B nf k).2) (hn := lk_ff_5 P n as B nf hn k) (hn12 := hk12) (hk := by omega) (r := lk_rdw P n (as k)) (hr := hV16 k (by omega)) (h := hfo) (h12 := h12)) ?_
                    refine lk_k3 ?_
                    refine lk_cast (pc' := 115) (S' := [lk_vi 1]) rfl rfl rfl ?_
                    refine lk_if_ne (tgt := 132) dX9_boats_115 (by decide) (fun hh10 => ?_) (fun hh10 => absurd hh10 (by decide))
                    refine lk_iincN (a := k) (m := 1) (L' := [(0, lk_vr 1 0), (1, lk_vi (nI (k + 1)))]) dX9_boats_132 rfl rfl (by decide +kernel) rfl ?_
                    refine lk_goto (tgt := 102) dX9_boats_135 (by decide) ?_
                    refine ih (k + 1) V (by omega) (by
                      show lk_fputn _ _ _ ≤ 12
                      unfold lk_fputn
                      first
                        | (rw [if_pos hfo]; exact hk12)
                        | (rw [if_neg (by rw [hfo]; decide)]; omega)) hVf hV12 hV17 hV16 hV2 (by omega)
                  ·
                    refine lk_callV (o := 1) (as := [lk_vi (nI (k))]) (S := []) dX9_boats_112 rfl vX9_comes rfl lX9_109 rfl rfl (Nat.le_of_ble_eq_true rfl) (tX9_comes_full l X (d + 2) V τ (k := (k)) (B := (lk_ff P n as B nf k).1) (nf := (lk_ff P n as B nf k).2) (hn := lk_ff_5 P n as B nf hn k) (hn12 := hk12) (hk := by omega) (r := lk_rdw P n (as k)) (hr := hV16 k (by omega)) (h := hfo) (h12 := h12)) ?_
                    refine lk_k3 ?_
                    refine lk_cast (pc' := 115) (S' := [lk_vi 0]) rfl rfl rfl ?_
                    refine lk_if_ne (tgt := 132) dX9_boats_115 (by decide) (fun hh11 => absurd hh11 (by decide)) (fun hh11 => ?_)
                    refine lk_aload_n dX9_boats_118 rfl rfl ?_
                    refine lk_getR (f := 2) dX9_boats_119 rfl fX9_18 (by decide) (by decide) ?_
                    refine lk_aload_n dX9_boats_122 rfl rfl ?_
                    refine lk_getR (f := 0) dX9_boats_123 rfl fX9_9 (by decide) (by decide) ?_
                    refine lk_callS (as := [lk_vr 1 3, lk_vr 1 1]) (S := []) dX9_boats_126 rfl vX9_pours rfl lX9_105 (Nat.le_of_ble_eq_true rfl) (tX9_pours_20mb l X (d + 3) V τ (B := (lk_ff P n as B nf k).1) (B0 := B) (R := σ 1 0) (hA := fun j _ => hV2 j)) ?_
                    refine lk_k3 ?_
                    refine lk_cast (pc' := 129) (S' := []) rfl rfl rfl ?_
                    refine lk_bipush (v := (-3)) dX9_boats_129 (by decide) ?_
                    refine lk_iret .int dX9_boats_131 rfl rfl ?_
                    rw [hQ]
                    have hgt : ¬ (lk_ff P n as B nf t).2 ≤ 12 := by
                      have h13 : (lk_ff P n as B nf (k + 1)).2 = 13 := by
                        show lk_fputn _ _ _ = 13
                        unfold lk_fputn
                        rw [if_neg (by rw [hfo]; decide), h12]
                      have hm := lk_ff_mono P n as B nf (k + 1) (t - (k + 1))
                      rw [show k + 1 + (t - (k + 1)) = t by omega, h13] at hm
                      omega
                    rw [hI, if_pos (by omega), if_neg hgt]
                    exact ⟨rfl, rfl, lk_sw V 1 0 (σ 1 0), rfl, (by rw [show lk_sw V 1 0 (σ 1 0) = V from by rw [← (funext fun x => hVf 1 0 x (by decide) : V 1 0 = σ 1 0)]; exact lk_sw_self V 1 0]; exact hVf), hV12⟩
            have hw0 : W 1 0 = σ 1 0 := funext fun x => hWf 1 0 x (by decide)
            exact LP102 (t + 1) 0 ((lk_sw (lk_up W 1 12 0 0) 1 2 (lk_mbw B ((lk_up W 1 12 0 0) 1 0)))) (by omega) hn12 (lk_fx_sw (lk_fx_up (lk_fx_mo hWf (by decide)) (by decide)) (by decide)) rfl hW17 hW16 (fun j => (lk_sw_at _ _ _ _ _).trans (by rw [show (lk_up W 1 12 0 0) 1 0 = W 1 0 from rfl, hw0])) (by omega)
          ·
            refine lk_aload_n dX9_boats_65 rfl rfl ?_
            refine lk_callV (o := 1) (as := []) (S := []) dX9_boats_66 rfl vX9_wrong rfl lX9_79 rfl rfl (Nat.le_of_ble_eq_true rfl) (tX9_wrong_ok l X (d + 3) W τ (B := B) (a := p) (ha := hW14) (hf := hW15)) ?_
            refine lk_k3 ?_
            refine lk_cast (pc' := 69) (S' := []) rfl rfl rfl ?_
            refine lk_aload_n dX9_boats_69 rfl rfl ?_
            refine lk_iconst (v := 0) dX9_boats_70 (by decide) ?_
            refine lk_putI (f := 12) dX9_boats_71 rfl fX9_65 (by decide) (by decide) ?_
            refine lk_sg (σ' := (lk_mb (lk_up (lk_up W 1 15 0 (nI (p))) 1 12 0 0) B)) (lk_bf (by decide)) ?_
            refine lk_aload_n dX9_boats_74 rfl rfl ?_
            refine lk_getIv (v := (nI (p))) (f := 15) dX9_boats_75 rfl fX9_69 (by decide) (by decide) ((lk_bn (by decide)).trans rfl) ?_
            refine lk_if_ltN (a := p) (tgt := 89) dX9_boats_78 (by decide) (by omega) (fun hh12 => absurd hh12 (by omega)) (fun hh12 => ?_)
            refine lk_bipush (v := (-100)) dX9_boats_81 (by decide) ?_
            refine lk_aload_n dX9_boats_83 rfl rfl ?_
            refine lk_getIv (v := (nI (p))) (f := 15) dX9_boats_84 rfl fX9_69 (by decide) (by decide) ((lk_bn (by decide)).trans rfl) ?_
            refine lk_isub dX9_boats_87 ?_
            refine lk_iret .int dX9_boats_88 rfl rfl ?_
            rw [hQ]
            rw [hI, if_neg (by omega), if_neg (fun z => hncm (lk_eq_b.mpr z))]
            exact ⟨rfl, rfl, (lk_up (lk_up W 1 15 0 (nI (p))) 1 12 0 0), rfl, (lk_fx_up (lk_fx_up (lk_fx_mo hWf (by decide)) (by decide)) (by decide)), rfl⟩
        ·
          have hcm : lk_cur P n p = 44 := lk_eq_b.mp (by assumption)
          have hpn : p < n := (lk_curm_lt (by rw [hcm]; decide)).1
          have hwx : True := trivial
          refine lk_aload_n dX9_boats_30 rfl rfl ?_
          refine lk_dup dX9_boats_31 rfl ?_
          refine lk_getIv (v := (nI (p))) (f := 14) dX9_boats_32 rfl fX9_72 (by decide) (by decide) ((lk_bn (by decide)).trans hW14) ?_
          refine lk_iconst (v := 1) dX9_boats_35 (by decide) ?_
          refine lk_iaddN (a := p) (b := 1) dX9_boats_36 ?_
          refine lk_putI (f := 14) dX9_boats_37 rfl fX9_72 (by decide) (by decide) ?_
          refine lk_sg (σ' := (lk_mb (lk_up W 1 14 0 (nI (p + 1))) B)) (lk_bf (by decide)) ?_
          refine lk_aload_n dX9_boats_40 rfl rfl ?_
          rcases hb : (lk_rdb P n (p + 1) (nI L)).1 with _ | _
          ·
            refine lk_callV (o := 1) (as := []) (S := []) dX9_boats_41 rfl vX9_readsBoat rfl lX9_102 rfl rfl (Nat.le_of_ble_eq_true rfl) (tX9_readsBoat l X d (lk_up W 1 14 0 (nI (p + 1))) τ (B := B) (P := P) (n := n) (hn60 := hn60) (htp := (hWf 1 12 0 (by decide)).trans htp) (hP := fun a h => (hWf 1 13 a (by decide)).trans (hP a h)) (a := (p + 1)) (ha := rfl) (han := by omega) (hf := hW15) (hr := hr) (L := L) (hL := hL) (hml := (hWf 1 0 53 (by decide)).trans hml) (t := t) (ht := hW17) (ht11 := by omega)) ?_
            refine lk_k4 (fun WB hWB => ?_)
            refine lk_cast (pc' := 44) (S' := []) rfl rfl rfl ?_
            refine lk_sg (σ' := (lk_mb WB B)) rfl ?_
            have hRb : ∃ E, R = (-100 - nI (lk_rdb P n (p + 1) (nI L)).2, false, E) := by
              rw [hI, if_neg (by omega), if_pos hcm, show 60 - t = (60 - (t + 1)) + 1 by omega, lk_rbs, if_neg (by rw [hb]; decide)]
              exact ⟨_, rfl⟩
            have hw15 : WB 1 15 0 = nI (lk_rdb P n (p + 1) (nI L)).2 := hWB.2.2 hb
            have hwle : (lk_rdb P n (p + 1) (nI L)).2 ≤ 70 := lk_rdb_le2 P hn60 (by omega) _
            have hwf : lk_fx [2, 12, 14, 15, 16, 17] σ WB := lk_fx_mo (S := [14, 15, 16, 17]) (lk_fx_tr (lk_fx_up hWf (by decide)) hWB.1) (by decide)
            refine lk_goto (tgt := 19) dX9_boats_44 (by decide) ?_
            refine lk_aload_n dX9_boats_19 rfl rfl ?_
            refine lk_bipush (v := 44) dX9_boats_20 (by decide) ?_
            refine lk_bipush (v := 44) dX9_boats_22 (by decide) ?_
            refine lk_callV (o := 1) (as := [lk_vi 44, lk_vi 44]) (S := []) dX9_boats_24 rfl vX9_isFrom rfl lX9_75 rfl rfl (Nat.le_of_ble_eq_true rfl) (tX9_isFrom_bad l X (d + 2) WB τ (lo := (44 : Int32)) (hi := (44 : Int32)) (B := B) (hf := by rw [hw15]; exact nI_pos' (by omega))) ?_
            refine lk_k3 ?_
            refine lk_cast (pc' := 27) (S' := [lk_vi 0]) rfl rfl rfl ?_
            refine lk_if_eq (tgt := 47) dX9_boats_27 (by decide) (fun hh13 => ?_) (fun hh13 => absurd hh13 (by decide))
            refine lk_aload_n dX9_boats_47 rfl rfl ?_
            refine lk_getIv (v := (nI ((lk_rdb P n (p + 1) (nI L)).2))) (f := 15) dX9_boats_48 rfl fX9_69 (by decide) (by decide) ((lk_bn (by decide)).trans (by first | exact hw15 | exact hw15)) ?_
            refine lk_if_geN (a := (lk_rdb P n (p + 1) (nI L)).2) (tgt := 69) dX9_boats_51 (by decide) (by omega) (fun hh14 => ?_) (fun hh14 => absurd hh14 (by omega))
            refine lk_aload_n dX9_boats_69 rfl rfl ?_
            refine lk_iconst (v := 0) dX9_boats_70 (by decide) ?_
            refine lk_putI (f := 12) dX9_boats_71 rfl fX9_65 (by decide) (by decide) ?_
            refine lk_sg (σ' := (lk_mb (lk_up WB 1 12 0 0) B)) (lk_bf (by decide)) ?_
            refine lk_aload_n dX9_boats_74 rfl rfl ?_
            refine lk_getIv (v := (nI ((lk_rdb P n (p + 1) (nI L)).2))) (f := 15) dX9_boats_75 rfl fX9_69 (by decide) (by decide) ((lk_bn (by decide)).trans (by first | exact hw15 | exact hw15)) ?_
            refine lk_if_ltN (a := (lk_rdb P n (p + 1) (nI L)).2) (tgt := 89) dX9_boats_78 (by decide) (by omega) (fun hh15 => absurd hh15 (by omega)) (fun hh15 => ?_)
            refine lk_bipush (v := (-100)) dX9_boats_81 (by decide) ?_
            refine lk_aload_n dX9_boats_83 rfl rfl ?_
            refine lk_getIv (v := (nI ((lk_rdb P n (p + 1) (nI L)).2))) (f := 15) dX9_boats_84 rfl fX9_69 (by decide) (by decide) ((lk_bn (by decide)).trans (by first | exact hw15 | exact hw15)) ?_
            refine lk_isub dX9_boats_87 ?_
            refine lk_iret .int dX9_boats_88 rfl rfl ?_
            rw [hQ]
            first
              | (rw [hRb]; exact ⟨rfl, rfl, (lk_up WB 1 12 0 0), rfl, (lk_fx_up hwf (by decide)), rfl⟩)
              | (obtain ⟨E, hRb⟩ := hRb
                 rw [hRb]; exact ⟨rfl, rfl, (lk_up WB 1 12 0 0), rfl, (lk_fx_up hwf (by decide)), rfl⟩)
          ·
            refine lk_callV (o := 1) (as := []) (S := []) dX9_boats_41 rfl vX9_readsBoat rfl lX9_102 rfl rfl (Nat.le_of_ble_eq_true rfl) (tX9_readsBoat l X d (lk_up W 1 14 0 (nI (p + 1))) τ (B := B) (P := P) (n := n) (hn60 := hn60) (htp := (hWf 1 12 0 (by decide)).trans htp) (hP := fun a h => (hWf 1 13 a (by decide)).trans (hP a h)) (a := (p + 1)) (ha := rfl) (han := by omega) (hf := hW15) (hr := hr) (L := L) (hL := hL) (hml := (hWf 1 0 53 (by decide)).trans hml) (t := t) (ht := hW17) (ht11 := by omega)) ?_
            refine lk_k4 (fun W1 hW1 => ?_)
            refine lk_cast (pc' := 44) (S' := []) rfl rfl rfl ?_
            refine lk_sg (σ' := (lk_mb W1 B)) rfl ?_
            refine lk_goto (tgt := 19) dX9_boats_44 (by decide) ?_
            obtain ⟨w14, w15, w17, w16, wold⟩ := hW1.2.1 hb
            have hge := lk_rdbm_ge P n (p + 1) (nI L) hb
            have hle := lk_rdbm_le P n (p + 1) (nI L) hb
            have hff : ∀ i, i ≤ t → (lk_ff P n (fun x => if x = t then p + 1 else as x) B nf i) = (lk_ff P n as B nf i) := fun i hi => lk_ff_e P n _ _ B nf i (fun x hx => if_neg (by omega))
            refine ih (t + 1) (lk_rdb P n (p + 1) (nI L)).2 (fun x => if x = t then p + 1 else as x) W1 (by omega) (by omega) (by omega) (lk_fx_tr (lk_fx_up hWf (by decide)) hW1.1) w14 w15 w17 (fun i hi f hf => ?_) ?_ (by omega)
            · by_cases e : i = t
              · subst e; rw [if_pos rfl]; exact w16 f hf
              · rw [if_neg e, wold (5 * i + f) (by omega)]
                exact hW16 i (by omega) f hf
            · rw [hI, if_neg (by omega), if_pos hcm, show 60 - t = (60 - (t + 1)) + 1 by omega, lk_rbs, if_pos hb]
              simp only [lk_ff, if_true, hff t (Nat.le_refl _)]
    obtain ⟨w14, w15, w17, w16, wold⟩ := hW1.2.1 hb
    have hge := lk_rdbm_ge P n 0 (nI L) hb
    have hle := lk_rdbm_le P n 0 (nI L) hb
    refine LP19 61 1 (lk_rdb P n 0 (nI L)).2 (fun _ => 0) W1 (by omega) (by omega) (by omega) (lk_fx_tr (lk_fx_up (lk_fx_up (lk_fx_up (lk_fx_rf _ _) (by decide)) (by decide)) (by decide)) hW1.1) w14 w15 w17 (fun i hi f hf => ?_) ?_ (by omega)
    · have e : i = 0 := by omega
      subst e; exact w16 f hf
    · rw [hR, lk_rbs, if_pos hb]
      rfl
