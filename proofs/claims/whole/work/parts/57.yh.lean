theorem lk_neg_msb {x : Int64} : x < 0 ↔ x.toBitVec.msb = true := by
  show (x.toBitVec.slt 0#64 = true) ↔ _
  rw [BitVec.slt_zero_eq_msb]
theorem lk_neg_b (x : Int64) : decide (x < 0) = x.toBitVec.msb := by
  rw [Bool.eq_iff_iff, decide_eq_true_iff]; exact lk_neg_msb
/-- n times v is no long -/
def lk_byd (n v : Int64) : Bool := decide (¬ n = 0) && decide (¬ v = 0) && ((decide (n = -1) && decide (v = -9223372036854775808)) || (decide (v = -1) && decide (n = -9223372036854775808)) || decide (¬ n * v / n = v))
theorem lk_byd_iff (n v : Int64) : lk_byd n v = true ↔ (¬ n = 0 ∧ ¬ v = 0 ∧ ((n = -1 ∧ v = -9223372036854775808) ∨ (v = -1 ∧ n = -9223372036854775808) ∨ ¬ n * v / n = v)) := by
  simp [lk_byd, and_assoc, or_assoc]
theorem lk_mul_m1 (v : Int64) : -1 * v = -v := by grind
theorem lk_byd_eq (n v : Int64) : lk_byd n v = (if n = -1 then decide (v = -9223372036854775808) else decide (¬ n = 0) && decide (¬ n * v / n = v)) := by
  unfold lk_byd
  by_cases hn : n = -1
  · subst hn
    rw [if_pos rfl]
    by_cases hv : v = -9223372036854775808
    · subst hv; decide
    · have h1 : -1 * v / -1 = v := by
        rw [lk_mul_m1]
        apply Int64.toInt_inj.mp
        rw [Int64.toInt_div, Int64.toInt_neg]
        have a := Int64.toInt_lt v
        have b := Int64.le_toInt v
        have c : v.toInt ≠ -9223372036854775808 := fun e => hv (Int64.toInt_inj.mp e)
        rw [show (-1 : Int64).toInt = -1 from rfl]
        have e1 : (-v.toInt).bmod (2 ^ 64) = -v.toInt := Int.bmod_eq_of_le (by omega) (by omega)
        rw [e1]
        have e2 : (-v.toInt).tdiv (-1) = v.toInt := by simp
        rw [e2]
        exact Int.bmod_eq_of_le (by omega) (by omega)
      simp [hv, h1]
  · rw [if_neg hn]
    by_cases h0 : n = 0
    · subst h0; simp
    · by_cases v0 : v = 0
      · subst v0
        have : n * 0 / n = 0 := by simp
        simp [this]
      · by_cases hm : v = -1 ∧ n = -9223372036854775808
        · obtain ⟨rfl, rfl⟩ := hm; decide
        · simp [h0, v0, hn, hm]
theorem lk_pays_eq (a n v : Int64) : lk_pbad a n v = (lk_byd n v || (decide (a < 0) == decide (n * v < 0) && decide (a + n * v < 0) != decide (a < 0))) := by
  rw [lk_byd_eq]
  unfold lk_pbad
  congr 1
  rw [lk_neg_b, lk_neg_b, lk_neg_b, lk_neg_b]
  simp only [Int64.toBitVec_and, Int64.toBitVec_xor, BitVec.msb_and, BitVec.msb_xor]
  cases a.toBitVec.msb <;> cases (n * v).toBitVec.msb <;> cases (a + n * v).toBitVec.msb <;> rfl
theorem lk_inr9 {f j : Nat} (hf : f = 0 ∨ f = 1 ∨ f = 2) (h : lk_inr 1 f j) : j < 235 := by
  unfold lk_inr at h
  rcases hf with rfl | rfl | rfl
  · rcases h with ⟨h, _⟩ | ⟨_, h⟩
    · exact absurd h (by decide)
    · exact h
  · rcases h with ⟨h, _⟩ | ⟨_, h⟩
    · exact absurd h (by decide)
    · exact h
  · rcases h with ⟨h, _⟩ | ⟨_, h⟩
    · exact absurd h (by decide)
    · exact h
/-- now is laid by -/
def lk_lay (σ : lk_N) (V T : lk_O) : lk_N := lk_sw σ 1 2 (lk_mw V T (σ 1 0))
def lk_mnx (V : lk_O) (b : Int32) : Nat → Int32
  | 0 => 1000000
  | m + 1 => if b < V 6 m then (if V 6 m < lk_mnx V b m then V 6 m else lk_mnx V b m) else lk_mnx V b m
theorem lk_mnl {V : lk_O} {b : Int32} (hb : -1 ≤ b.toInt) : ∀ m, (∀ r, r < m → 0 ≤ (V 6 r).toInt ∧ (V 6 r).toInt ≤ 9999) → (lk_mnx V b m = 1000000 ∧ lk_llo V b m = -1 ∧ ∀ r, r < m → ¬ b < V 6 r) ∨ (lk_mnx V b m = lk_llo V b m ∧ 0 ≤ (lk_llo V b m).toInt ∧ (lk_llo V b m).toInt ≤ 9999 ∧ b < lk_llo V b m ∧ ∃ r, r < m ∧ V 6 r = lk_llo V b m)
  | 0, _ => Or.inl ⟨rfl, rfl, fun _ h => absurd h (by omega)⟩
  | m + 1, h => by
    have hm := h m (by omega)
    have e1 : (1000000 : Int32).toInt = 1000000 := rfl
    have e0 : (0 : Int32).toInt = 0 := rfl
    unfold lk_mnx lk_llo
    by_cases hc : b < V 6 m
    · rw [if_pos hc]
      rcases lk_mnl hb m (fun r hr => h r (by omega)) with ⟨i1, i2, i3⟩ | ⟨i1, i2, i3, i4, r, i5, i6⟩
      · rw [i1, i2, if_pos (Int32.lt_iff_toInt_lt.mpr (by rw [e1]; omega)), if_pos ⟨hc, Or.inl (by decide)⟩]
        exact Or.inr ⟨rfl, hm.1, hm.2, hc, m, by omega, rfl⟩
      · rw [i1]
        by_cases hl : V 6 m < lk_llo V b m
        · rw [if_pos hl, if_pos ⟨hc, Or.inr hl⟩]
          exact Or.inr ⟨rfl, hm.1, hm.2, hc, m, by omega, rfl⟩
        · rw [if_neg hl, if_neg]
          · exact Or.inr ⟨rfl, i2, i3, i4, r, by omega, i6⟩
          · rintro ⟨_, q | q⟩
            · have := Int32.lt_iff_toInt_lt.mp q; rw [e0] at this; omega
            · exact hl q
    · rw [if_neg hc, if_neg (fun q => hc q.1)]
      rcases lk_mnl hb m (fun r hr => h r (by omega)) with ⟨i1, i2, i3⟩ | ⟨i1, i2, i3, i4, r, i5, i6⟩
      · refine Or.inl ⟨i1, i2, fun r hr => ?_⟩
        rcases Nat.lt_or_ge r m with q | q
        · exact i3 r q
        · have : r = m := by omega
          subst this; exact hc
      · exact Or.inr ⟨i1, i2, i3, i4, r, by omega, i6⟩
theorem lk_ct_le {f g : Nat → Bool} : ∀ m, (∀ r, r < m → f r = true → g r = true) → lk_ct f m ≤ lk_ct g m
  | 0, _ => Nat.le_refl _
  | m + 1, h => by
    have ih := lk_ct_le (f := f) (g := g) m (fun r hr => h r (by omega))
    have hm := h m (by omega)
    simp only [lk_ct]
    by_cases hf : f m = true
    · rw [if_pos hf, if_pos (hm hf)]; omega
    · rw [if_neg hf]; split <;> omega
theorem lk_ct_lt {f g : Nat → Bool} {q : Nat} : ∀ m, (∀ r, r < m → f r = true → g r = true) → q < m → f q = false → g q = true → lk_ct f m < lk_ct g m
  | 0, _, h, _, _ => absurd h (by omega)
  | m + 1, h, hq, hf, hg => by
    have hm := h m (by omega)
    simp only [lk_ct]
    rcases Nat.lt_or_ge q m with e | e
    · have ih := lk_ct_lt (f := f) (g := g) m (fun r hr => h r (by omega)) e hf hg
      by_cases hfm : f m = true
      · rw [if_pos hfm, if_pos (hm hfm)]; omega
      · rw [if_neg hfm]; split <;> omega
    · have e2 : q = m := by omega
      subst e2
      have ih := lk_ct_le (f := f) (g := g) q (fun r hr => h r (by omega))
      rw [if_neg (by rw [hf]; decide), if_pos hg]; omega
theorem lk_ct_m {f : Nat → Bool} : ∀ m, lk_ct f m ≤ m
  | 0 => Nat.le_refl _
  | m + 1 => by have := lk_ct_m (f := f) m; simp only [lk_ct]; split <;> omega
/-- one level on: fewer lie above -/
theorem lk_lvn {V : lk_O} {b : Int32} {m : Nat} (h : b < lk_llo V b m) (hr : ∃ r, r < m ∧ V 6 r = lk_llo V b m) : lk_ct (fun r => decide (lk_llo V b m < V 6 r)) m < lk_ct (fun r => decide (b < V 6 r)) m := by
  obtain ⟨r, h1, h2⟩ := hr
  refine lk_ct_lt (q := r) m (fun s _ hs => ?_) h1 ?_ ?_
  · exact decide_eq_true (Int32.lt_trans h (of_decide_eq_true hs))
  · exact decide_eq_false (by rw [h2]; exact Int32.lt_irrefl)
  · exact decide_eq_true (by rw [h2]; exact h)
set_option maxHeartbeats 1000000 in
set_option maxRecDepth 100000 in
theorem tX9_pours_02ms (l : Launch) (X : lk_G) (d : Nat) (σ : lk_N) (τ : lk_T) (V T : lk_O)  : lk_Mt l X mX9_pours d [lk_vr 1 1, lk_vr 1 3] (lk_ms σ V T) τ (fun rr σ1 τ1 => rr = none ∧ σ1 = (lk_ms (lk_lay σ V T) V T) ∧ τ1 = τ) := by
  refine lk_met (L := [(0, lk_vr 1 1), (1, lk_vr 1 3)]) (by decide +kernel) (Nat.le_of_ble_eq_true rfl) rfl ?_
  obtain ⟨Q, hQ⟩ : ∃ Q : lk_Q, Q = fun rr σ1 τ1 => rr = none ∧ σ1 = (lk_ms (lk_lay σ V T) V T) ∧ τ1 = τ := ⟨_, rfl⟩
  rw [← hQ]
  refine lk_iconst (v := 0) dX9_pours_0 (by decide) ?_
  refine lk_istore_n (L' := [(0, lk_vr 1 1), (1, lk_vr 1 3), (2, lk_vi 0)]) dX9_pours_1 rfl (by decide +kernel) rfl ?_
  have LP2 : ∀ (fu : Nat) (i : Nat), i ≤ 235 → 235 - i < fu → lk_W l X mX9_pours d 2 [(0, lk_vr 1 1), (1, lk_vr 1 3), (2, lk_vi (nI (i)))] [] (lk_cp (lk_ms σ V T) 1 0 1 2 i) τ Q := by
    intro fu
    induction fu with
    | zero => intro i hi hfu; exact absurd hfu (by omega)
    | succ fu ih =>
      intro i hi hfu
      refine lk_iload_n dX9_pours_2 rfl rfl ?_
      refine lk_sipush (v := 235) dX9_pours_3 (by decide) ?_
      refine lk_icmp_geN (a := i) (b := 235) (tgt := 21) dX9_pours_6 (by decide) (by omega) (by omega) (fun hh1 => ?_) (fun hh1 => ?_)
      ·
        have hi5 : i = 235 := by omega
        subst hi5
        refine lk_ext (σ' := lk_ms (lk_lay σ V T) V T) (fun o f j hin => ?_) ?_
        · by_cases ho : o = 1 ∧ f = 2
          · obtain ⟨rfl, rfl⟩ := ho
            have hj := lk_inr9 (Or.inr (Or.inr rfl)) hin
            rw [lk_rf (by decide)]
            simp only [lk_lay, lk_sw, lk_cp]
            simp [hj, lk_ms_r]
          · by_cases h0 : o = 1 ∧ f = 0
            · obtain ⟨rfl, rfl⟩ := h0
              simp [lk_cp, lk_ms_r, lk_lay]
              rfl
            · rw [lk_rf h0]
              simp only [lk_lay, lk_sw, lk_cp]
              rw [if_neg ho, if_neg (by intro z; first | exact ho z | exact ho ⟨z.1, z.2.1⟩), lk_rf h0]
        refine lk_vret dX9_pours_21 rfl ?_
        rw [hQ]
        exact ⟨by first | rfl | (simp [*]; done) | (simp_all; done) | grind, by first | rfl | (simp [*]; done), rfl⟩
      ·
        refine lk_aload_n dX9_pours_9 rfl rfl ?_
        refine lk_iload_n dX9_pours_10 rfl rfl ?_
        refine lk_aload_n dX9_pours_11 rfl rfl ?_
        refine lk_iload_n dX9_pours_12 rfl rfl ?_
        refine lk_ialdN (f := 0) (i := i) dX9_pours_13 rfl (by decide) rfl (by omega) (by decide) ?_
        refine lk_iastN (f := 2) (i := i) (v := ((lk_cp (lk_ms σ V T) 1 0 1 2 i) 1 0 (i))) dX9_pours_14 rfl (by decide) rfl (by omega) (by decide) ?_
        refine lk_iincN (a := i) (m := 1) (L' := [(0, lk_vr 1 1), (1, lk_vr 1 3), (2, lk_vi (nI (i + 1)))]) dX9_pours_15 rfl rfl (by decide +kernel) rfl ?_
        refine lk_goto (tgt := 2) dX9_pours_18 (by decide) ?_
        rw [lk_cp_s (lk_ms σ V T) (by decide)]
        exact ih (i + 1) (by omega) (by omega)
  refine lk_sg (lk_cp_0 (lk_ms σ V T) 1 0 2) ?_
  exact LP2 236 0 (by omega) (by omega)

set_option maxHeartbeats 1000000 in
set_option maxRecDepth 100000 in
theorem tX9_pours_20ms (l : Launch) (X : lk_G) (d : Nat) (σ : lk_N) (τ : lk_T) (V T : lk_O) (V0 T0 : lk_O) (R : Nat → Int32) (hA : ∀ j, j < 235 → σ 1 2 j = lk_mw V0 T0 R j) : lk_Mt l X mX9_pours d [lk_vr 1 3, lk_vr 1 1] (lk_ms σ V T) τ (fun rr σ1 τ1 => rr = none ∧ σ1 = (lk_ms (lk_sw σ 1 0 R) V0 T0) ∧ τ1 = τ) := by
  refine lk_met (L := [(0, lk_vr 1 3), (1, lk_vr 1 1)]) (by decide +kernel) (Nat.le_of_ble_eq_true rfl) rfl ?_
  obtain ⟨Q, hQ⟩ : ∃ Q : lk_Q, Q = fun rr σ1 τ1 => rr = none ∧ σ1 = (lk_ms (lk_sw σ 1 0 R) V0 T0) ∧ τ1 = τ := ⟨_, rfl⟩
  rw [← hQ]
  refine lk_iconst (v := 0) dX9_pours_0 (by decide) ?_
  refine lk_istore_n (L' := [(0, lk_vr 1 3), (1, lk_vr 1 1), (2, lk_vi 0)]) dX9_pours_1 rfl (by decide +kernel) rfl ?_
  have LP2 : ∀ (fu : Nat) (i : Nat), i ≤ 235 → 235 - i < fu → lk_W l X mX9_pours d 2 [(0, lk_vr 1 3), (1, lk_vr 1 1), (2, lk_vi (nI (i)))] [] (lk_cp (lk_ms σ V T) 1 2 1 0 i) τ Q := by
    intro fu
    induction fu with
    | zero => intro i hi hfu; exact absurd hfu (by omega)
    | succ fu ih =>
      intro i hi hfu
      refine lk_iload_n dX9_pours_2 rfl rfl ?_
      refine lk_sipush (v := 235) dX9_pours_3 (by decide) ?_
      refine lk_icmp_geN (a := i) (b := 235) (tgt := 21) dX9_pours_6 (by decide) (by omega) (by omega) (fun hh1 => ?_) (fun hh1 => ?_)
      ·
        have hi5 : i = 235 := by omega
        subst hi5
        refine lk_ext (σ' := lk_ms (lk_sw σ 1 0 R) V0 T0) (fun o f j hin => ?_) ?_
        · by_cases h0 : o = 1 ∧ f = 0
          · obtain ⟨rfl, rfl⟩ := h0
            have hj := lk_inr9 (Or.inl rfl) hin
            rw [lk_ms_r]
            simp only [lk_sw, lk_cp]
            simp [hj, lk_rf, hA j hj]
            rfl
          · rw [lk_rf h0]
            simp only [lk_sw, lk_cp]
            rw [if_neg h0, if_neg (by intro z; first | exact h0 z | exact h0 ⟨z.1, z.2.1⟩), lk_rf h0]
        refine lk_vret dX9_pours_21 rfl ?_
        rw [hQ]
        exact ⟨by first | rfl | (simp [*]; done) | (simp_all; done) | grind, by first | rfl | (simp [*]; done), rfl⟩
      ·
        refine lk_aload_n dX9_pours_9 rfl rfl ?_
        refine lk_iload_n dX9_pours_10 rfl rfl ?_
        refine lk_aload_n dX9_pours_11 rfl rfl ?_
        refine lk_iload_n dX9_pours_12 rfl rfl ?_
        refine lk_ialdN (f := 2) (i := i) dX9_pours_13 rfl (by decide) rfl (by omega) (by decide) ?_
        refine lk_iastN (f := 0) (i := i) (v := ((lk_cp (lk_ms σ V T) 1 2 1 0 i) 1 2 (i))) dX9_pours_14 rfl (by decide) rfl (by omega) (by decide) ?_
        refine lk_iincN (a := i) (m := 1) (L' := [(0, lk_vr 1 3), (1, lk_vr 1 1), (2, lk_vi (nI (i + 1)))]) dX9_pours_15 rfl rfl (by decide +kernel) rfl ?_
        refine lk_goto (tgt := 2) dX9_pours_18 (by decide) ?_
        rw [lk_cp_s (lk_ms σ V T) (by decide)]
        exact ih (i + 1) (by omega) (by omega)
  refine lk_sg (lk_cp_0 (lk_ms σ V T) 1 2 0) ?_
  exact LP2 236 0 (by omega) (by omega)

set_option maxHeartbeats 1000000 in
set_option maxRecDepth 100000 in
theorem tX9_image (l : Launch) (X : lk_G) (d : Nat) (σ : lk_N) (τ : lk_T)  : lk_Mt l X mX9_image (d + 1) [lk_vr 1 0] σ τ (fun rr σ1 τ1 => rr = some (lk_vi (σ 1 0 114)) ∧ σ1 = lk_cp (lk_up σ 1 3 0 1) 1 0 1 1 235 ∧ τ1 = lk_ut τ 1 5 (τ 1 4)) := by
  refine lk_met (L := [(0, lk_vr 1 0)]) (by decide +kernel) (Nat.le_of_ble_eq_true rfl) rfl ?_
  obtain ⟨Q, hQ⟩ : ∃ Q : lk_Q, Q = fun rr σ1 τ1 => rr = some (lk_vi (σ 1 0 114)) ∧ σ1 = lk_cp (lk_up σ 1 3 0 1) 1 0 1 1 235 ∧ τ1 = lk_ut τ 1 5 (τ 1 4) := ⟨_, rfl⟩
  rw [← hQ]
  refine lk_aload_n dX9_image_0 rfl rfl ?_
  refine lk_iconst (v := 1) dX9_image_1 (by decide) ?_
  refine lk_putZ (f := 3) dX9_image_2 rfl fX9_241 (by decide) (by decide) (by decide) ?_
  refine lk_aload_n dX9_image_5 rfl rfl ?_
  refine lk_getR (f := 0) dX9_image_6 rfl fX9_9 (by decide) (by decide) ?_
  refine lk_aload_n dX9_image_9 rfl rfl ?_
  refine lk_getR (f := 1) dX9_image_10 rfl fX9_15 (by decide) (by decide) ?_
  refine lk_callS (as := [lk_vr 1 1, lk_vr 1 2]) (S := []) dX9_image_13 rfl vX9_pours rfl lX9_105 (Nat.le_of_ble_eq_true rfl) (tX9_pours_01 l X d (lk_up σ 1 3 0 1) τ  ) ?_
  refine lk_k3 ?_
  refine lk_cast (pc' := 16) (S' := []) rfl rfl rfl ?_
  refine lk_aload_n dX9_image_16 rfl rfl ?_
  refine lk_aload_n dX9_image_17 rfl rfl ?_
  refine lk_getL (f := 4) dX9_image_18 rfl fX9_237 (by decide) (by decide) ?_
  refine lk_putL (f := 5) dX9_image_21 rfl fX9_244 (by decide) (by decide) ?_
  refine lk_aload_n dX9_image_24 rfl rfl ?_
  refine lk_getR (f := 0) dX9_image_25 rfl fX9_9 (by decide) (by decide) ?_
  refine lk_bipush (v := 114) dX9_image_28 (by decide) ?_
  refine lk_ialdN (f := 0) (i := 114) dX9_image_30 rfl (by decide) rfl (by omega) (by decide) ?_
  refine lk_eqtop (y := (σ 1 0 114)) (by simp [lk_cp, lk_up]) ?_
  refine lk_iret .int dX9_image_31 rfl rfl ?_
  rw [hQ]
  exact ⟨by first | rfl | (simp [*]; done) | (simp_all; done) | grind, by first | rfl | (simp [*]; done), rfl⟩

set_option maxHeartbeats 1000000 in
set_option maxRecDepth 100000 in
theorem tX9_undo_no (l : Launch) (X : lk_G) (d : Nat) (σ : lk_N) (τ : lk_T) (h : σ 1 3 0 = 0) : lk_Mt l X mX9_undo (d + 1) [lk_vr 1 0] σ τ (fun rr σ1 τ1 => rr = some (lk_vi (-5)) ∧ σ1 = σ ∧ τ1 = τ) := by
  refine lk_met (L := [(0, lk_vr 1 0)]) (by decide +kernel) (Nat.le_of_ble_eq_true rfl) rfl ?_
  obtain ⟨Q, hQ⟩ : ∃ Q : lk_Q, Q = fun rr σ1 τ1 => rr = some (lk_vi (-5)) ∧ σ1 = σ ∧ τ1 = τ := ⟨_, rfl⟩
  rw [← hQ]
  refine lk_aload_n dX9_undo_0 rfl rfl ?_
  refine lk_getI (f := 3) dX9_undo_1 rfl fX9_241 (by decide) (by decide) ?_
  refine lk_if_ne (tgt := 10) dX9_undo_4 (by decide) (fun hh1 => absurd hh1 (fun q => q h)) (fun hh1 => ?_)
  refine lk_bipush (v := (-5)) dX9_undo_7 (by decide) ?_
  refine lk_iret .int dX9_undo_9 rfl rfl ?_
  rw [hQ]
  exact ⟨by first | rfl | (simp [*]; done) | (simp_all; done) | grind, by first | rfl | (simp [*]; done), rfl⟩

set_option maxHeartbeats 1000000 in
set_option maxRecDepth 100000 in
theorem tX9_undo_ok (l : Launch) (X : lk_G) (d : Nat) (σ : lk_N) (τ : lk_T) (h : σ 1 3 0 = 1) : lk_Mt l X mX9_undo (d + 1) [lk_vr 1 0] σ τ (fun rr σ1 τ1 => rr = some (lk_vi (σ 1 1 114)) ∧ σ1 = lk_cp σ 1 1 1 0 235 ∧ τ1 = lk_ut τ 1 4 (τ 1 5)) := by
  refine lk_met (L := [(0, lk_vr 1 0)]) (by decide +kernel) (Nat.le_of_ble_eq_true rfl) rfl ?_
  obtain ⟨Q, hQ⟩ : ∃ Q : lk_Q, Q = fun rr σ1 τ1 => rr = some (lk_vi (σ 1 1 114)) ∧ σ1 = lk_cp σ 1 1 1 0 235 ∧ τ1 = lk_ut τ 1 4 (τ 1 5) := ⟨_, rfl⟩
  rw [← hQ]
  refine lk_aload_n dX9_undo_0 rfl rfl ?_
  refine lk_getI (f := 3) dX9_undo_1 rfl fX9_241 (by decide) (by decide) ?_
  refine lk_if_ne (tgt := 10) dX9_undo_4 (by decide) (fun hh1 => ?_) (fun hh1 => absurd hh1 (by rw [h]; decide))
  refine lk_aload_n dX9_undo_10 rfl rfl ?_
  refine lk_getR (f := 1) dX9_undo_11 rfl fX9_15 (by decide) (by decide) ?_
  refine lk_aload_n dX9_undo_14 rfl rfl ?_
  refine lk_getR (f := 0) dX9_undo_15 rfl fX9_9 (by decide) (by decide) ?_
  refine lk_callS (as := [lk_vr 1 2, lk_vr 1 1]) (S := []) dX9_undo_18 rfl vX9_pours rfl lX9_105 (Nat.le_of_ble_eq_true rfl) (tX9_pours_10 l X d σ τ  ) ?_
  refine lk_k3 ?_
  refine lk_cast (pc' := 21) (S' := []) rfl rfl rfl ?_
  refine lk_aload_n dX9_undo_21 rfl rfl ?_
  refine lk_aload_n dX9_undo_22 rfl rfl ?_
  refine lk_getL (f := 5) dX9_undo_23 rfl fX9_244 (by decide) (by decide) ?_
  refine lk_putL (f := 4) dX9_undo_26 rfl fX9_237 (by decide) (by decide) ?_
  refine lk_aload_n dX9_undo_29 rfl rfl ?_
  refine lk_getR (f := 0) dX9_undo_30 rfl fX9_9 (by decide) (by decide) ?_
  refine lk_bipush (v := 114) dX9_undo_33 (by decide) ?_
  refine lk_ialdN (f := 0) (i := 114) dX9_undo_35 rfl (by decide) rfl (by omega) (by decide) ?_
  refine lk_eqtop (y := (σ 1 1 114)) (by simp [lk_cp, lk_up]) ?_
  refine lk_iret .int dX9_undo_36 rfl rfl ?_
  rw [hQ]
  exact ⟨by first | rfl | (simp [*]; done) | (simp_all; done) | grind, by first | rfl | (simp [*]; done), rfl⟩

set_option maxHeartbeats 1000000 in
set_option maxRecDepth 100000 in
theorem tX9_isBeyond (l : Launch) (X : lk_G) (d : Nat) (σ : lk_N) (τ : lk_T) (n v : Int64) : lk_Mt l X mX9_isBeyond d [lk_vl (n), lk_vl (v)] σ τ (fun rr σ1 τ1 => rr = some (lk_vi (if lk_byd n v = true then 1 else 0)) ∧ σ1 = σ ∧ τ1 = τ) := by
  refine lk_met (L := [(0, lk_vl (n)), (2, lk_vl (v))]) (by decide +kernel) (Nat.le_of_ble_eq_true rfl) rfl ?_
  obtain ⟨Q, hQ⟩ : ∃ Q : lk_Q, Q = fun rr σ1 τ1 => rr = some (lk_vi (if lk_byd n v = true then 1 else 0)) ∧ σ1 = σ ∧ τ1 = τ := ⟨_, rfl⟩
  rw [← hQ]
  refine lk_lload_n dX9_isBeyond_0 rfl rfl ?_
  refine lk_lconst (v := 0) dX9_isBeyond_1 rfl ?_
  refine lk_lcmp dX9_isBeyond_2 ?_
  refine lk_if_eq (tgt := 12) dX9_isBeyond_3 (by decide) (fun hh1 => ?_) (fun hh1 => ?_)
  ·
    refine lk_iconst (v := 0) dX9_isBeyond_12 (by decide) ?_
    refine lk_iret .boolean dX9_isBeyond_13 rfl rfl ?_
    rw [hQ]
    refine ⟨?_, rfl, rfl⟩
    have hb := lk_byd_iff n v
    simp only [lk_cmp0] at *
    generalize n * v / n = w at *
    first | (rw [if_pos (hb.mpr (by grind))]; done) | (rw [if_neg (fun z => absurd (hb.mp z) (by grind))]; done)
  ·
    refine lk_lload_n dX9_isBeyond_6 rfl rfl ?_
    refine lk_lconst (v := 0) dX9_isBeyond_7 rfl ?_
    refine lk_lcmp dX9_isBeyond_8 ?_
    refine lk_if_ne (tgt := 14) dX9_isBeyond_9 (by decide) (fun hh2 => ?_) (fun hh2 => ?_)
    ·
      refine lk_lload_n dX9_isBeyond_14 rfl rfl ?_
      refine lk_lload_n dX9_isBeyond_15 rfl rfl ?_
      refine lk_lmul dX9_isBeyond_16 ?_
      refine lk_lstore (L' := [(0, lk_vl (n)), (2, lk_vl (v)), (4, lk_vl ((n) * (v)))]) dX9_isBeyond_17 (by decide +kernel) rfl ?_
      refine lk_lload_n dX9_isBeyond_19 rfl rfl ?_
      refine lk_ldc2 dX9_isBeyond_20 kX9_229 ?_
      refine lk_lcmp dX9_isBeyond_23 ?_
      refine lk_if_ne (tgt := 35) dX9_isBeyond_24 (by decide) (fun hh3 => ?_) (fun hh3 => ?_)
      ·
        refine lk_lload_n dX9_isBeyond_35 rfl rfl ?_
        refine lk_ldc2 dX9_isBeyond_36 kX9_229 ?_
        refine lk_lcmp dX9_isBeyond_39 ?_
        refine lk_if_ne (tgt := 51) dX9_isBeyond_40 (by decide) (fun hh4 => ?_) (fun hh4 => ?_)
        ·
          refine lk_lload dX9_isBeyond_51 rfl ?_
          refine lk_lload_n dX9_isBeyond_53 rfl rfl ?_
          refine lk_ldiv dX9_isBeyond_54 (fun z => (show ¬ lg_cmp (n) (0) = 0 by assumption) (lk_cmp0.mpr z)) ?_
          refine lk_lload_n dX9_isBeyond_55 rfl rfl ?_
          refine lk_lcmp dX9_isBeyond_56 ?_
          refine lk_if_eq (tgt := 64) dX9_isBeyond_57 (by decide) (fun hh5 => ?_) (fun hh5 => ?_)
          ·
            refine lk_iconst (v := 0) dX9_isBeyond_64 (by decide) ?_
            refine lk_iret .boolean dX9_isBeyond_65 rfl rfl ?_
            rw [hQ]
            refine ⟨?_, rfl, rfl⟩
            have hb := lk_byd_iff n v
            simp only [lk_cmp0] at *
            generalize n * v / n = w at *
            first | (rw [if_pos (hb.mpr (by grind))]; done) | (rw [if_neg (fun z => absurd (hb.mp z) (by grind))]; done)
          ·
            refine lk_iconst (v := 1) dX9_isBeyond_60 (by decide) ?_
            refine lk_goto (tgt := 65) dX9_isBeyond_61 (by decide) ?_
            refine lk_iret .boolean dX9_isBeyond_65 rfl rfl ?_
            rw [hQ]
            refine ⟨?_, rfl, rfl⟩
            have hb := lk_byd_iff n v
            simp only [lk_cmp0] at *
            generalize n * v / n = w at *
            first | (rw [if_pos (hb.mpr (by grind))]; done) | (rw [if_neg (fun z => absurd (hb.mp z) (by grind))]; done)
        ·
          refine lk_lload_n dX9_isBeyond_43 rfl rfl ?_
          refine lk_ldc2 dX9_isBeyond_44 kX9_231 ?_
          refine lk_lcmp dX9_isBeyond_47 ?_
          refine lk_if_eq (tgt := 60) dX9_isBeyond_48 (by decide) (fun hh6 => ?_) (fun hh6 => ?_)
          ·
            refine lk_iconst (v := 1) dX9_isBeyond_60 (by decide) ?_
            refine lk_goto (tgt := 65) dX9_isBeyond_61 (by decide) ?_
            refine lk_iret .boolean dX9_isBeyond_65 rfl rfl ?_
            rw [hQ]
            refine ⟨?_, rfl, rfl⟩
            have hb := lk_byd_iff n v
            simp only [lk_cmp0] at *
            generalize n * v / n = w at *
            first | (rw [if_pos (hb.mpr (by grind))]; done) | (rw [if_neg (fun z => absurd (hb.mp z) (by grind))]; done)
          ·
            refine lk_lload dX9_isBeyond_51 rfl ?_
            refine lk_lload_n dX9_isBeyond_53 rfl rfl ?_
            refine lk_ldiv dX9_isBeyond_54 (fun z => (show ¬ lg_cmp (n) (0) = 0 by assumption) (lk_cmp0.mpr z)) ?_
            refine lk_lload_n dX9_isBeyond_55 rfl rfl ?_
            refine lk_lcmp dX9_isBeyond_56 ?_
            refine lk_if_eq (tgt := 64) dX9_isBeyond_57 (by decide) (fun hh7 => ?_) (fun hh7 => ?_)
            ·
              refine lk_iconst (v := 0) dX9_isBeyond_64 (by decide) ?_
              refine lk_iret .boolean dX9_isBeyond_65 rfl rfl ?_
              rw [hQ]
              refine ⟨?_, rfl, rfl⟩
              have hb := lk_byd_iff n v
              simp only [lk_cmp0] at *
              generalize n * v / n = w at *
              first | (rw [if_pos (hb.mpr (by grind))]; done) | (rw [if_neg (fun z => absurd (hb.mp z) (by grind))]; done)
            ·
              refine lk_iconst (v := 1) dX9_isBeyond_60 (by decide) ?_
              refine lk_goto (tgt := 65) dX9_isBeyond_61 (by decide) ?_
              refine lk_iret .boolean dX9_isBeyond_65 rfl rfl ?_
              rw [hQ]
              refine ⟨?_, rfl, rfl⟩
              have hb := lk_byd_iff n v
              simp only [lk_cmp0] at *
              generalize n * v / n = w at *
              first | (rw [if_pos (hb.mpr (by grind))]; done) | (rw [if_neg (fun z => absurd (hb.mp z) (by grind))]; done)
      ·
        refine lk_lload_n dX9_isBeyond_27 rfl rfl ?_
        refine lk_ldc2 dX9_isBeyond_28 kX9_231 ?_
        refine lk_lcmp dX9_isBeyond_31 ?_
        refine lk_if_eq (tgt := 60) dX9_isBeyond_32 (by decide) (fun hh8 => ?_) (fun hh8 => ?_)
        ·
          refine lk_iconst (v := 1) dX9_isBeyond_60 (by decide) ?_
          refine lk_goto (tgt := 65) dX9_isBeyond_61 (by decide) ?_
          refine lk_iret .boolean dX9_isBeyond_65 rfl rfl ?_
          rw [hQ]
          refine ⟨?_, rfl, rfl⟩
          have hb := lk_byd_iff n v
          simp only [lk_cmp0] at *
          generalize n * v / n = w at *
          first | (rw [if_pos (hb.mpr (by grind))]; done) | (rw [if_neg (fun z => absurd (hb.mp z) (by grind))]; done)
        ·
          refine lk_lload_n dX9_isBeyond_35 rfl rfl ?_
          refine lk_ldc2 dX9_isBeyond_36 kX9_229 ?_
          refine lk_lcmp dX9_isBeyond_39 ?_
          refine lk_if_ne (tgt := 51) dX9_isBeyond_40 (by decide) (fun hh9 => ?_) (fun hh9 => ?_)
          ·
            refine lk_lload dX9_isBeyond_51 rfl ?_
            refine lk_lload_n dX9_isBeyond_53 rfl rfl ?_
            refine lk_ldiv dX9_isBeyond_54 (fun z => (show ¬ lg_cmp (n) (0) = 0 by assumption) (lk_cmp0.mpr z)) ?_
            refine lk_lload_n dX9_isBeyond_55 rfl rfl ?_
            refine lk_lcmp dX9_isBeyond_56 ?_
            refine lk_if_eq (tgt := 64) dX9_isBeyond_57 (by decide) (fun hh10 => ?_) (fun hh10 => ?_)
            ·
              refine lk_iconst (v := 0) dX9_isBeyond_64 (by decide) ?_
              refine lk_iret .boolean dX9_isBeyond_65 rfl rfl ?_
              rw [hQ]
              refine ⟨?_, rfl, rfl⟩
              have hb := lk_byd_iff n v
              simp only [lk_cmp0] at *
              generalize n * v / n = w at *
              first | (rw [if_pos (hb.mpr (by grind))]; done) | (rw [if_neg (fun z => absurd (hb.mp z) (by grind))]; done)
            ·
              refine lk_iconst (v := 1) dX9_isBeyond_60 (by decide) ?_
              refine lk_goto (tgt := 65) dX9_isBeyond_61 (by decide) ?_
              refine lk_iret .boolean dX9_isBeyond_65 rfl rfl ?_
              rw [hQ]
              refine ⟨?_, rfl, rfl⟩
              have hb := lk_byd_iff n v
              simp only [lk_cmp0] at *
              generalize n * v / n = w at *
              first | (rw [if_pos (hb.mpr (by grind))]; done) | (rw [if_neg (fun z => absurd (hb.mp z) (by grind))]; done)
          ·
            refine lk_lload_n dX9_isBeyond_43 rfl rfl ?_
            refine lk_ldc2 dX9_isBeyond_44 kX9_231 ?_
            refine lk_lcmp dX9_isBeyond_47 ?_
            refine lk_if_eq (tgt := 60) dX9_isBeyond_48 (by decide) (fun hh11 => ?_) (fun hh11 => ?_)
            ·
              refine lk_iconst (v := 1) dX9_isBeyond_60 (by decide) ?_
              refine lk_goto (tgt := 65) dX9_isBeyond_61 (by decide) ?_
              refine lk_iret .boolean dX9_isBeyond_65 rfl rfl ?_
              rw [hQ]
              refine ⟨?_, rfl, rfl⟩
              have hb := lk_byd_iff n v
              simp only [lk_cmp0] at *
              generalize n * v / n = w at *
              first | (rw [if_pos (hb.mpr (by grind))]; done) | (rw [if_neg (fun z => absurd (hb.mp z) (by grind))]; done)
            ·
              refine lk_lload dX9_isBeyond_51 rfl ?_
              refine lk_lload_n dX9_isBeyond_53 rfl rfl ?_
              refine lk_ldiv dX9_isBeyond_54 (fun z => (show ¬ lg_cmp (n) (0) = 0 by assumption) (lk_cmp0.mpr z)) ?_
              refine lk_lload_n dX9_isBeyond_55 rfl rfl ?_
              refine lk_lcmp dX9_isBeyond_56 ?_
              refine lk_if_eq (tgt := 64) dX9_isBeyond_57 (by decide) (fun hh12 => ?_) (fun hh12 => ?_)
              ·
                refine lk_iconst (v := 0) dX9_isBeyond_64 (by decide) ?_
                refine lk_iret .boolean dX9_isBeyond_65 rfl rfl ?_
                rw [hQ]
                refine ⟨?_, rfl, rfl⟩
                have hb := lk_byd_iff n v
                simp only [lk_cmp0] at *
                generalize n * v / n = w at *
                first | (rw [if_pos (hb.mpr (by grind))]; done) | (rw [if_neg (fun z => absurd (hb.mp z) (by grind))]; done)
              ·
                refine lk_iconst (v := 1) dX9_isBeyond_60 (by decide) ?_
                refine lk_goto (tgt := 65) dX9_isBeyond_61 (by decide) ?_
                refine lk_iret .boolean dX9_isBeyond_65 rfl rfl ?_
                rw [hQ]
                refine ⟨?_, rfl, rfl⟩
                have hb := lk_byd_iff n v
                simp only [lk_cmp0] at *
                generalize n * v / n = w at *
                first | (rw [if_pos (hb.mpr (by grind))]; done) | (rw [if_neg (fun z => absurd (hb.mp z) (by grind))]; done)
    ·
      refine lk_iconst (v := 0) dX9_isBeyond_12 (by decide) ?_
      refine lk_iret .boolean dX9_isBeyond_13 rfl rfl ?_
      rw [hQ]
      refine ⟨?_, rfl, rfl⟩
      have hb := lk_byd_iff n v
      simp only [lk_cmp0] at *
      generalize n * v / n = w at *
      first | (rw [if_pos (hb.mpr (by grind))]; done) | (rw [if_neg (fun z => absurd (hb.mp z) (by grind))]; done)

set_option maxHeartbeats 1000000 in
set_option maxRecDepth 100000 in
theorem tX9_pays_over (l : Launch) (X : lk_G) (d : Nat) (σ : lk_N) (τ : lk_T) (n v : Int64) (h : lk_pbad (τ 1 4) n v = true) : lk_Mt l X mX9_pays (d + 1) [lk_vr 1 0, lk_vl (n), lk_vl (v)] σ τ (fun rr σ1 τ1 => rr = some (lk_vi (-7)) ∧ σ1 = σ ∧ τ1 = τ) := by
  refine lk_met (L := [(0, lk_vr 1 0), (1, lk_vl (n)), (3, lk_vl (v))]) (by decide +kernel) (Nat.le_of_ble_eq_true rfl) rfl ?_
  obtain ⟨Q, hQ⟩ : ∃ Q : lk_Q, Q = fun rr σ1 τ1 => rr = some (lk_vi (-7)) ∧ σ1 = σ ∧ τ1 = τ := ⟨_, rfl⟩
  rw [← hQ]
  refine lk_lload_n dX9_pays_0 rfl rfl ?_
  refine lk_lload_n dX9_pays_1 rfl rfl ?_
  refine lk_callS (as := [lk_vl (n), lk_vl (v)]) (S := []) dX9_pays_2 rfl vX9_isBeyond rfl lX9_233 (Nat.le_of_ble_eq_true rfl) (tX9_isBeyond l X d σ τ (n := (n)) (v := (v)) ) ?_
  refine lk_k3 ?_
  refine lk_cast (pc' := 5) (S' := [lk_vi (if lk_byd (n) (v) = true then 1 else 0)]) rfl rfl rfl ?_
  refine lk_if_eqB (tgt := 11) dX9_pays_5 (by decide) (fun hh1 => ?_) (fun hh1 => ?_)
  ·
    refine lk_lload_n dX9_pays_11 rfl rfl ?_
    refine lk_lload_n dX9_pays_12 rfl rfl ?_
    refine lk_lmul dX9_pays_13 ?_
    refine lk_lstore (L' := [(0, lk_vr 1 0), (1, lk_vl (n)), (3, lk_vl (v)), (5, lk_vl ((n) * (v)))]) dX9_pays_14 (by decide +kernel) rfl ?_
    refine lk_aload_n dX9_pays_16 rfl rfl ?_
    refine lk_getL (f := 4) dX9_pays_17 rfl fX9_237 (by decide) (by decide) ?_
    refine lk_lload dX9_pays_20 rfl ?_
    refine lk_ladd dX9_pays_22 ?_
    refine lk_lstore (L' := [(0, lk_vr 1 0), (1, lk_vl (n)), (3, lk_vl (v)), (5, lk_vl ((n) * (v))), (7, lk_vl ((τ 1 4) + ((n) * (v))))]) dX9_pays_23 (by decide +kernel) rfl ?_
    refine lk_aload_n dX9_pays_25 rfl rfl ?_
    refine lk_getL (f := 4) dX9_pays_26 rfl fX9_237 (by decide) (by decide) ?_
    refine lk_lconst (v := 0) dX9_pays_29 rfl ?_
    refine lk_lcmp dX9_pays_30 ?_
    refine lk_if_ge (tgt := 38) dX9_pays_31 (by decide) (fun hh2 => ?_) (fun hh2 => ?_)
    ·
      refine lk_iconst (v := 0) dX9_pays_38 (by decide) ?_
      refine lk_lload dX9_pays_39 rfl ?_
      refine lk_lconst (v := 0) dX9_pays_41 rfl ?_
      refine lk_lcmp dX9_pays_42 ?_
      refine lk_if_ge (tgt := 50) dX9_pays_43 (by decide) (fun hh3 => ?_) (fun hh3 => ?_)
      ·
        refine lk_iconst (v := 0) dX9_pays_50 (by decide) ?_
        refine lk_icmp_neN (a := 0) (b := 0) (tgt := 86) dX9_pays_51 (by decide) (by omega) (by omega) (fun hh4 => absurd hh4 (by decide)) (fun hh4 => ?_)
        refine lk_lload dX9_pays_54 rfl ?_
        refine lk_lconst (v := 0) dX9_pays_56 rfl ?_
        refine lk_lcmp dX9_pays_57 ?_
        refine lk_if_ge (tgt := 65) dX9_pays_58 (by decide) (fun hh5 => ?_) (fun hh5 => ?_)
        ·
          refine lk_iconst (v := 0) dX9_pays_65 (by decide) ?_
          refine lk_aload_n dX9_pays_66 rfl rfl ?_
          refine lk_getL (f := 4) dX9_pays_67 rfl fX9_237 (by decide) (by decide) ?_
          refine lk_lconst (v := 0) dX9_pays_70 rfl ?_
          refine lk_lcmp dX9_pays_71 ?_
          refine lk_if_ge (tgt := 79) dX9_pays_72 (by decide) (fun hh6 => ?_) (fun hh6 => ?_)
          ·
            refine lk_iconst (v := 0) dX9_pays_79 (by decide) ?_
            refine lk_icmp_eqN (a := 0) (b := 0) (tgt := 86) dX9_pays_80 (by decide) (by omega) (by omega) (fun hh7 => ?_) (fun hh7 => absurd hh7 (by decide))
            refine lk_aload_n dX9_pays_86 rfl rfl ?_
            refine lk_lload dX9_pays_87 rfl ?_
            refine lk_putL (f := 4) dX9_pays_89 rfl fX9_237 (by decide) (by decide) ?_
            refine lk_iconst (v := 1) dX9_pays_92 (by decide) ?_
            refine lk_iret .int dX9_pays_93 rfl rfl ?_
            rw [hQ]
            exfalso
            rw [lk_pays_eq] at h
            (try simp only [lk_cmpg] at *)
            grind
          ·
            refine lk_iconst (v := 1) dX9_pays_75 (by decide) ?_
            refine lk_goto (tgt := 80) dX9_pays_76 (by decide) ?_
            refine lk_icmp_eqN (a := 0) (b := 1) (tgt := 86) dX9_pays_80 (by decide) (by omega) (by omega) (fun hh8 => absurd hh8 (by decide)) (fun hh8 => ?_)
            refine lk_bipush (v := (-7)) dX9_pays_83 (by decide) ?_
            refine lk_iret .int dX9_pays_85 rfl rfl ?_
            rw [hQ]
            exact ⟨rfl, rfl, rfl⟩
        ·
          refine lk_iconst (v := 1) dX9_pays_61 (by decide) ?_
          refine lk_goto (tgt := 66) dX9_pays_62 (by decide) ?_
          refine lk_aload_n dX9_pays_66 rfl rfl ?_
          refine lk_getL (f := 4) dX9_pays_67 rfl fX9_237 (by decide) (by decide) ?_
          refine lk_lconst (v := 0) dX9_pays_70 rfl ?_
          refine lk_lcmp dX9_pays_71 ?_
          refine lk_if_ge (tgt := 79) dX9_pays_72 (by decide) (fun hh9 => ?_) (fun hh9 => ?_)
          ·
            refine lk_iconst (v := 0) dX9_pays_79 (by decide) ?_
            refine lk_icmp_eqN (a := 1) (b := 0) (tgt := 86) dX9_pays_80 (by decide) (by omega) (by omega) (fun hh10 => absurd hh10 (by decide)) (fun hh10 => ?_)
            refine lk_bipush (v := (-7)) dX9_pays_83 (by decide) ?_
            refine lk_iret .int dX9_pays_85 rfl rfl ?_
            rw [hQ]
            exact ⟨rfl, rfl, rfl⟩
          ·
            refine lk_iconst (v := 1) dX9_pays_75 (by decide) ?_
            refine lk_goto (tgt := 80) dX9_pays_76 (by decide) ?_
            refine lk_icmp_eqN (a := 1) (b := 1) (tgt := 86) dX9_pays_80 (by decide) (by omega) (by omega) (fun hh11 => ?_) (fun hh11 => absurd hh11 (by decide))
            refine lk_aload_n dX9_pays_86 rfl rfl ?_
            refine lk_lload dX9_pays_87 rfl ?_
            refine lk_putL (f := 4) dX9_pays_89 rfl fX9_237 (by decide) (by decide) ?_
            refine lk_iconst (v := 1) dX9_pays_92 (by decide) ?_
            refine lk_iret .int dX9_pays_93 rfl rfl ?_
            rw [hQ]
            exfalso
            rw [lk_pays_eq] at h
            (try simp only [lk_cmpg] at *)
            grind
      ·
        refine lk_iconst (v := 1) dX9_pays_46 (by decide) ?_
        refine lk_goto (tgt := 51) dX9_pays_47 (by decide) ?_
        refine lk_icmp_neN (a := 0) (b := 1) (tgt := 86) dX9_pays_51 (by decide) (by omega) (by omega) (fun hh12 => ?_) (fun hh12 => absurd hh12 (by decide))
        refine lk_aload_n dX9_pays_86 rfl rfl ?_
        refine lk_lload dX9_pays_87 rfl ?_
        refine lk_putL (f := 4) dX9_pays_89 rfl fX9_237 (by decide) (by decide) ?_
        refine lk_iconst (v := 1) dX9_pays_92 (by decide) ?_
        refine lk_iret .int dX9_pays_93 rfl rfl ?_
        rw [hQ]
        exfalso
        rw [lk_pays_eq] at h
        (try simp only [lk_cmpg] at *)
        grind
    ·
      refine lk_iconst (v := 1) dX9_pays_34 (by decide) ?_
      refine lk_goto (tgt := 39) dX9_pays_35 (by decide) ?_
      refine lk_lload dX9_pays_39 rfl ?_
      refine lk_lconst (v := 0) dX9_pays_41 rfl ?_
      refine lk_lcmp dX9_pays_42 ?_
      refine lk_if_ge (tgt := 50) dX9_pays_43 (by decide) (fun hh13 => ?_) (fun hh13 => ?_)
      ·
        refine lk_iconst (v := 0) dX9_pays_50 (by decide) ?_
        refine lk_icmp_neN (a := 1) (b := 0) (tgt := 86) dX9_pays_51 (by decide) (by omega) (by omega) (fun hh14 => ?_) (fun hh14 => absurd hh14 (by decide))
        refine lk_aload_n dX9_pays_86 rfl rfl ?_
        refine lk_lload dX9_pays_87 rfl ?_
        refine lk_putL (f := 4) dX9_pays_89 rfl fX9_237 (by decide) (by decide) ?_
        refine lk_iconst (v := 1) dX9_pays_92 (by decide) ?_
        refine lk_iret .int dX9_pays_93 rfl rfl ?_
        rw [hQ]
        exfalso
        rw [lk_pays_eq] at h
        (try simp only [lk_cmpg] at *)
        grind
      ·
        refine lk_iconst (v := 1) dX9_pays_46 (by decide) ?_
        refine lk_goto (tgt := 51) dX9_pays_47 (by decide) ?_
        refine lk_icmp_neN (a := 1) (b := 1) (tgt := 86) dX9_pays_51 (by decide) (by omega) (by omega) (fun hh15 => absurd hh15 (by decide)) (fun hh15 => ?_)
        refine lk_lload dX9_pays_54 rfl ?_
        refine lk_lconst (v := 0) dX9_pays_56 rfl ?_
        refine lk_lcmp dX9_pays_57 ?_
        refine lk_if_ge (tgt := 65) dX9_pays_58 (by decide) (fun hh16 => ?_) (fun hh16 => ?_)
        ·
          refine lk_iconst (v := 0) dX9_pays_65 (by decide) ?_
          refine lk_aload_n dX9_pays_66 rfl rfl ?_
          refine lk_getL (f := 4) dX9_pays_67 rfl fX9_237 (by decide) (by decide) ?_
          refine lk_lconst (v := 0) dX9_pays_70 rfl ?_
          refine lk_lcmp dX9_pays_71 ?_
          refine lk_if_ge (tgt := 79) dX9_pays_72 (by decide) (fun hh17 => ?_) (fun hh17 => ?_)
          ·
            refine lk_iconst (v := 0) dX9_pays_79 (by decide) ?_
            refine lk_icmp_eqN (a := 0) (b := 0) (tgt := 86) dX9_pays_80 (by decide) (by omega) (by omega) (fun hh18 => ?_) (fun hh18 => absurd hh18 (by decide))
            refine lk_aload_n dX9_pays_86 rfl rfl ?_
            refine lk_lload dX9_pays_87 rfl ?_
            refine lk_putL (f := 4) dX9_pays_89 rfl fX9_237 (by decide) (by decide) ?_
            refine lk_iconst (v := 1) dX9_pays_92 (by decide) ?_
            refine lk_iret .int dX9_pays_93 rfl rfl ?_
            rw [hQ]
            exfalso
            rw [lk_pays_eq] at h
            (try simp only [lk_cmpg] at *)
            grind
          ·
            refine lk_iconst (v := 1) dX9_pays_75 (by decide) ?_
            refine lk_goto (tgt := 80) dX9_pays_76 (by decide) ?_
            refine lk_icmp_eqN (a := 0) (b := 1) (tgt := 86) dX9_pays_80 (by decide) (by omega) (by omega) (fun hh19 => absurd hh19 (by decide)) (fun hh19 => ?_)
            refine lk_bipush (v := (-7)) dX9_pays_83 (by decide) ?_
            refine lk_iret .int dX9_pays_85 rfl rfl ?_
            rw [hQ]
            exact ⟨rfl, rfl, rfl⟩
        ·
          refine lk_iconst (v := 1) dX9_pays_61 (by decide) ?_
          refine lk_goto (tgt := 66) dX9_pays_62 (by decide) ?_
          refine lk_aload_n dX9_pays_66 rfl rfl ?_
          refine lk_getL (f := 4) dX9_pays_67 rfl fX9_237 (by decide) (by decide) ?_
          refine lk_lconst (v := 0) dX9_pays_70 rfl ?_
          refine lk_lcmp dX9_pays_71 ?_
          refine lk_if_ge (tgt := 79) dX9_pays_72 (by decide) (fun hh20 => ?_) (fun hh20 => ?_)
          ·
            refine lk_iconst (v := 0) dX9_pays_79 (by decide) ?_
            refine lk_icmp_eqN (a := 1) (b := 0) (tgt := 86) dX9_pays_80 (by decide) (by omega) (by omega) (fun hh21 => absurd hh21 (by decide)) (fun hh21 => ?_)
            refine lk_bipush (v := (-7)) dX9_pays_83 (by decide) ?_
            refine lk_iret .int dX9_pays_85 rfl rfl ?_
            rw [hQ]
            exact ⟨rfl, rfl, rfl⟩
          ·
            refine lk_iconst (v := 1) dX9_pays_75 (by decide) ?_
            refine lk_goto (tgt := 80) dX9_pays_76 (by decide) ?_
            refine lk_icmp_eqN (a := 1) (b := 1) (tgt := 86) dX9_pays_80 (by decide) (by omega) (by omega) (fun hh22 => ?_) (fun hh22 => absurd hh22 (by decide))
            refine lk_aload_n dX9_pays_86 rfl rfl ?_
            refine lk_lload dX9_pays_87 rfl ?_
            refine lk_putL (f := 4) dX9_pays_89 rfl fX9_237 (by decide) (by decide) ?_
            refine lk_iconst (v := 1) dX9_pays_92 (by decide) ?_
            refine lk_iret .int dX9_pays_93 rfl rfl ?_
            rw [hQ]
            exfalso
            rw [lk_pays_eq] at h
            (try simp only [lk_cmpg] at *)
            grind
  ·
    refine lk_bipush (v := (-7)) dX9_pays_8 (by decide) ?_
    refine lk_iret .int dX9_pays_10 rfl rfl ?_
    rw [hQ]
    exact ⟨rfl, rfl, rfl⟩

set_option maxHeartbeats 1000000 in
set_option maxRecDepth 100000 in
theorem tX9_pays_ok (l : Launch) (X : lk_G) (d : Nat) (σ : lk_N) (τ : lk_T) (n v : Int64) (h : lk_pbad (τ 1 4) n v = false) : lk_Mt l X mX9_pays (d + 1) [lk_vr 1 0, lk_vl (n), lk_vl (v)] σ τ (fun rr σ1 τ1 => rr = some (lk_vi 1) ∧ σ1 = σ ∧ τ1 = lk_ut τ 1 4 (τ 1 4 + n * v)) := by
  refine lk_met (L := [(0, lk_vr 1 0), (1, lk_vl (n)), (3, lk_vl (v))]) (by decide +kernel) (Nat.le_of_ble_eq_true rfl) rfl ?_
  obtain ⟨Q, hQ⟩ : ∃ Q : lk_Q, Q = fun rr σ1 τ1 => rr = some (lk_vi 1) ∧ σ1 = σ ∧ τ1 = lk_ut τ 1 4 (τ 1 4 + n * v) := ⟨_, rfl⟩
  rw [← hQ]
  refine lk_lload_n dX9_pays_0 rfl rfl ?_
  refine lk_lload_n dX9_pays_1 rfl rfl ?_
  refine lk_callS (as := [lk_vl (n), lk_vl (v)]) (S := []) dX9_pays_2 rfl vX9_isBeyond rfl lX9_233 (Nat.le_of_ble_eq_true rfl) (tX9_isBeyond l X d σ τ (n := (n)) (v := (v)) ) ?_
  refine lk_k3 ?_
  refine lk_cast (pc' := 5) (S' := [lk_vi (if lk_byd (n) (v) = true then 1 else 0)]) rfl rfl rfl ?_
  refine lk_if_eqB (tgt := 11) dX9_pays_5 (by decide) (fun hh1 => ?_) (fun hh1 => ?_)
  ·
    refine lk_lload_n dX9_pays_11 rfl rfl ?_
    refine lk_lload_n dX9_pays_12 rfl rfl ?_
    refine lk_lmul dX9_pays_13 ?_
    refine lk_lstore (L' := [(0, lk_vr 1 0), (1, lk_vl (n)), (3, lk_vl (v)), (5, lk_vl ((n) * (v)))]) dX9_pays_14 (by decide +kernel) rfl ?_
    refine lk_aload_n dX9_pays_16 rfl rfl ?_
    refine lk_getL (f := 4) dX9_pays_17 rfl fX9_237 (by decide) (by decide) ?_
    refine lk_lload dX9_pays_20 rfl ?_
    refine lk_ladd dX9_pays_22 ?_
    refine lk_lstore (L' := [(0, lk_vr 1 0), (1, lk_vl (n)), (3, lk_vl (v)), (5, lk_vl ((n) * (v))), (7, lk_vl ((τ 1 4) + ((n) * (v))))]) dX9_pays_23 (by decide +kernel) rfl ?_
    refine lk_aload_n dX9_pays_25 rfl rfl ?_
    refine lk_getL (f := 4) dX9_pays_26 rfl fX9_237 (by decide) (by decide) ?_
    refine lk_lconst (v := 0) dX9_pays_29 rfl ?_
    refine lk_lcmp dX9_pays_30 ?_
    refine lk_if_ge (tgt := 38) dX9_pays_31 (by decide) (fun hh2 => ?_) (fun hh2 => ?_)
    ·
      refine lk_iconst (v := 0) dX9_pays_38 (by decide) ?_
      refine lk_lload dX9_pays_39 rfl ?_
      refine lk_lconst (v := 0) dX9_pays_41 rfl ?_
      refine lk_lcmp dX9_pays_42 ?_
      refine lk_if_ge (tgt := 50) dX9_pays_43 (by decide) (fun hh3 => ?_) (fun hh3 => ?_)
      ·
        refine lk_iconst (v := 0) dX9_pays_50 (by decide) ?_
        refine lk_icmp_neN (a := 0) (b := 0) (tgt := 86) dX9_pays_51 (by decide) (by omega) (by omega) (fun hh4 => absurd hh4 (by decide)) (fun hh4 => ?_)
        refine lk_lload dX9_pays_54 rfl ?_
        refine lk_lconst (v := 0) dX9_pays_56 rfl ?_
        refine lk_lcmp dX9_pays_57 ?_
        refine lk_if_ge (tgt := 65) dX9_pays_58 (by decide) (fun hh5 => ?_) (fun hh5 => ?_)
        ·
          refine lk_iconst (v := 0) dX9_pays_65 (by decide) ?_
          refine lk_aload_n dX9_pays_66 rfl rfl ?_
          refine lk_getL (f := 4) dX9_pays_67 rfl fX9_237 (by decide) (by decide) ?_
          refine lk_lconst (v := 0) dX9_pays_70 rfl ?_
          refine lk_lcmp dX9_pays_71 ?_
          refine lk_if_ge (tgt := 79) dX9_pays_72 (by decide) (fun hh6 => ?_) (fun hh6 => ?_)
          ·
            refine lk_iconst (v := 0) dX9_pays_79 (by decide) ?_
            refine lk_icmp_eqN (a := 0) (b := 0) (tgt := 86) dX9_pays_80 (by decide) (by omega) (by omega) (fun hh7 => ?_) (fun hh7 => absurd hh7 (by decide))
            refine lk_aload_n dX9_pays_86 rfl rfl ?_
            refine lk_lload dX9_pays_87 rfl ?_
            refine lk_putL (f := 4) dX9_pays_89 rfl fX9_237 (by decide) (by decide) ?_
            refine lk_iconst (v := 1) dX9_pays_92 (by decide) ?_
            refine lk_iret .int dX9_pays_93 rfl rfl ?_
            rw [hQ]
            exact ⟨rfl, rfl, rfl⟩
          ·
            refine lk_iconst (v := 1) dX9_pays_75 (by decide) ?_
            refine lk_goto (tgt := 80) dX9_pays_76 (by decide) ?_
            refine lk_icmp_eqN (a := 0) (b := 1) (tgt := 86) dX9_pays_80 (by decide) (by omega) (by omega) (fun hh8 => absurd hh8 (by decide)) (fun hh8 => ?_)
            refine lk_bipush (v := (-7)) dX9_pays_83 (by decide) ?_
            refine lk_iret .int dX9_pays_85 rfl rfl ?_
            rw [hQ]
            exfalso
            rw [lk_pays_eq] at h
            (try simp only [lk_cmpg] at *)
            grind
        ·
          refine lk_iconst (v := 1) dX9_pays_61 (by decide) ?_
          refine lk_goto (tgt := 66) dX9_pays_62 (by decide) ?_
          refine lk_aload_n dX9_pays_66 rfl rfl ?_
          refine lk_getL (f := 4) dX9_pays_67 rfl fX9_237 (by decide) (by decide) ?_
          refine lk_lconst (v := 0) dX9_pays_70 rfl ?_
          refine lk_lcmp dX9_pays_71 ?_
          refine lk_if_ge (tgt := 79) dX9_pays_72 (by decide) (fun hh9 => ?_) (fun hh9 => ?_)
          ·
            refine lk_iconst (v := 0) dX9_pays_79 (by decide) ?_
            refine lk_icmp_eqN (a := 1) (b := 0) (tgt := 86) dX9_pays_80 (by decide) (by omega) (by omega) (fun hh10 => absurd hh10 (by decide)) (fun hh10 => ?_)
            refine lk_bipush (v := (-7)) dX9_pays_83 (by decide) ?_
            refine lk_iret .int dX9_pays_85 rfl rfl ?_
            rw [hQ]
            exfalso
            rw [lk_pays_eq] at h
            (try simp only [lk_cmpg] at *)
            grind
          ·
            refine lk_iconst (v := 1) dX9_pays_75 (by decide) ?_
            refine lk_goto (tgt := 80) dX9_pays_76 (by decide) ?_
            refine lk_icmp_eqN (a := 1) (b := 1) (tgt := 86) dX9_pays_80 (by decide) (by omega) (by omega) (fun hh11 => ?_) (fun hh11 => absurd hh11 (by decide))
            refine lk_aload_n dX9_pays_86 rfl rfl ?_
            refine lk_lload dX9_pays_87 rfl ?_
            refine lk_putL (f := 4) dX9_pays_89 rfl fX9_237 (by decide) (by decide) ?_
            refine lk_iconst (v := 1) dX9_pays_92 (by decide) ?_
            refine lk_iret .int dX9_pays_93 rfl rfl ?_
            rw [hQ]
            exact ⟨rfl, rfl, rfl⟩
      ·
        refine lk_iconst (v := 1) dX9_pays_46 (by decide) ?_
        refine lk_goto (tgt := 51) dX9_pays_47 (by decide) ?_
        refine lk_icmp_neN (a := 0) (b := 1) (tgt := 86) dX9_pays_51 (by decide) (by omega) (by omega) (fun hh12 => ?_) (fun hh12 => absurd hh12 (by decide))
        refine lk_aload_n dX9_pays_86 rfl rfl ?_
        refine lk_lload dX9_pays_87 rfl ?_
        refine lk_putL (f := 4) dX9_pays_89 rfl fX9_237 (by decide) (by decide) ?_
        refine lk_iconst (v := 1) dX9_pays_92 (by decide) ?_
        refine lk_iret .int dX9_pays_93 rfl rfl ?_
        rw [hQ]
        exact ⟨rfl, rfl, rfl⟩
    ·
      refine lk_iconst (v := 1) dX9_pays_34 (by decide) ?_
      refine lk_goto (tgt := 39) dX9_pays_35 (by decide) ?_
      refine lk_lload dX9_pays_39 rfl ?_
      refine lk_lconst (v := 0) dX9_pays_41 rfl ?_
      refine lk_lcmp dX9_pays_42 ?_
      refine lk_if_ge (tgt := 50) dX9_pays_43 (by decide) (fun hh13 => ?_) (fun hh13 => ?_)
      ·
        refine lk_iconst (v := 0) dX9_pays_50 (by decide) ?_
        refine lk_icmp_neN (a := 1) (b := 0) (tgt := 86) dX9_pays_51 (by decide) (by omega) (by omega) (fun hh14 => ?_) (fun hh14 => absurd hh14 (by decide))
        refine lk_aload_n dX9_pays_86 rfl rfl ?_
        refine lk_lload dX9_pays_87 rfl ?_
        refine lk_putL (f := 4) dX9_pays_89 rfl fX9_237 (by decide) (by decide) ?_
        refine lk_iconst (v := 1) dX9_pays_92 (by decide) ?_
        refine lk_iret .int dX9_pays_93 rfl rfl ?_
        rw [hQ]
        exact ⟨rfl, rfl, rfl⟩
      ·
        refine lk_iconst (v := 1) dX9_pays_46 (by decide) ?_
        refine lk_goto (tgt := 51) dX9_pays_47 (by decide) ?_
        refine lk_icmp_neN (a := 1) (b := 1) (tgt := 86) dX9_pays_51 (by decide) (by omega) (by omega) (fun hh15 => absurd hh15 (by decide)) (fun hh15 => ?_)
        refine lk_lload dX9_pays_54 rfl ?_
        refine lk_lconst (v := 0) dX9_pays_56 rfl ?_
        refine lk_lcmp dX9_pays_57 ?_
        refine lk_if_ge (tgt := 65) dX9_pays_58 (by decide) (fun hh16 => ?_) (fun hh16 => ?_)
        ·
          refine lk_iconst (v := 0) dX9_pays_65 (by decide) ?_
          refine lk_aload_n dX9_pays_66 rfl rfl ?_
          refine lk_getL (f := 4) dX9_pays_67 rfl fX9_237 (by decide) (by decide) ?_
          refine lk_lconst (v := 0) dX9_pays_70 rfl ?_
          refine lk_lcmp dX9_pays_71 ?_
          refine lk_if_ge (tgt := 79) dX9_pays_72 (by decide) (fun hh17 => ?_) (fun hh17 => ?_)
          ·
            refine lk_iconst (v := 0) dX9_pays_79 (by decide) ?_
            refine lk_icmp_eqN (a := 0) (b := 0) (tgt := 86) dX9_pays_80 (by decide) (by omega) (by omega) (fun hh18 => ?_) (fun hh18 => absurd hh18 (by decide))
            refine lk_aload_n dX9_pays_86 rfl rfl ?_
            refine lk_lload dX9_pays_87 rfl ?_
            refine lk_putL (f := 4) dX9_pays_89 rfl fX9_237 (by decide) (by decide) ?_
            refine lk_iconst (v := 1) dX9_pays_92 (by decide) ?_
            refine lk_iret .int dX9_pays_93 rfl rfl ?_
            rw [hQ]
            exact ⟨rfl, rfl, rfl⟩
          ·
            refine lk_iconst (v := 1) dX9_pays_75 (by decide) ?_
            refine lk_goto (tgt := 80) dX9_pays_76 (by decide) ?_
            refine lk_icmp_eqN (a := 0) (b := 1) (tgt := 86) dX9_pays_80 (by decide) (by omega) (by omega) (fun hh19 => absurd hh19 (by decide)) (fun hh19 => ?_)
            refine lk_bipush (v := (-7)) dX9_pays_83 (by decide) ?_
            refine lk_iret .int dX9_pays_85 rfl rfl ?_
            rw [hQ]
            exfalso
            rw [lk_pays_eq] at h
            (try simp only [lk_cmpg] at *)
            grind
        ·
          refine lk_iconst (v := 1) dX9_pays_61 (by decide) ?_
          refine lk_goto (tgt := 66) dX9_pays_62 (by decide) ?_
          refine lk_aload_n dX9_pays_66 rfl rfl ?_
          refine lk_getL (f := 4) dX9_pays_67 rfl fX9_237 (by decide) (by decide) ?_
          refine lk_lconst (v := 0) dX9_pays_70 rfl ?_
          refine lk_lcmp dX9_pays_71 ?_
          refine lk_if_ge (tgt := 79) dX9_pays_72 (by decide) (fun hh20 => ?_) (fun hh20 => ?_)
          ·
            refine lk_iconst (v := 0) dX9_pays_79 (by decide) ?_
            refine lk_icmp_eqN (a := 1) (b := 0) (tgt := 86) dX9_pays_80 (by decide) (by omega) (by omega) (fun hh21 => absurd hh21 (by decide)) (fun hh21 => ?_)
            refine lk_bipush (v := (-7)) dX9_pays_83 (by decide) ?_
            refine lk_iret .int dX9_pays_85 rfl rfl ?_
            rw [hQ]
            exfalso
            rw [lk_pays_eq] at h
            (try simp only [lk_cmpg] at *)
            grind
          ·
            refine lk_iconst (v := 1) dX9_pays_75 (by decide) ?_
            refine lk_goto (tgt := 80) dX9_pays_76 (by decide) ?_
            refine lk_icmp_eqN (a := 1) (b := 1) (tgt := 86) dX9_pays_80 (by decide) (by omega) (by omega) (fun hh22 => ?_) (fun hh22 => absurd hh22 (by decide))
            refine lk_aload_n dX9_pays_86 rfl rfl ?_
            refine lk_lload dX9_pays_87 rfl ?_
            refine lk_putL (f := 4) dX9_pays_89 rfl fX9_237 (by decide) (by decide) ?_
            refine lk_iconst (v := 1) dX9_pays_92 (by decide) ?_
            refine lk_iret .int dX9_pays_93 rfl rfl ?_
            rw [hQ]
            exact ⟨rfl, rfl, rfl⟩
  ·
    refine lk_bipush (v := (-7)) dX9_pays_8 (by decide) ?_
    refine lk_iret .int dX9_pays_10 rfl rfl ?_
    rw [hQ]
    exfalso
    rw [lk_pays_eq] at h
    (try simp only [lk_cmpg] at *)
    grind

set_option maxHeartbeats 1000000 in
set_option maxRecDepth 100000 in
theorem tX9_levels_bad (l : Launch) (X : lk_G) (d : Nat) (σ : lk_N) (τ : lk_T) (i : Int32) (h : i < -1) : lk_Mt l X mX9_levels (d + 1) [lk_vr 1 0, lk_vi (i)] σ τ (fun rr σ1 τ1 => rr = some (lk_vi (-1)) ∧ σ1 = σ ∧ τ1 = τ) := by
  refine lk_met (L := [(0, lk_vr 1 0), (1, lk_vi (i))]) (by decide +kernel) (Nat.le_of_ble_eq_true rfl) rfl ?_
  obtain ⟨Q, hQ⟩ : ∃ Q : lk_Q, Q = fun rr σ1 τ1 => rr = some (lk_vi (-1)) ∧ σ1 = σ ∧ τ1 = τ := ⟨_, rfl⟩
  rw [← hQ]
  refine lk_iload_n dX9_levels_0 rfl rfl ?_
  refine lk_iconst (v := (-1)) dX9_levels_1 (by decide) ?_
  refine lk_icmp_ge (tgt := 7) dX9_levels_2 (by decide) (fun hh1 => absurd hh1 (Int32.not_le.mpr h)) (fun hh1 => ?_)
  refine lk_iconst (v := (-1)) dX9_levels_5 (by decide) ?_
  refine lk_iret .int dX9_levels_6 rfl rfl ?_
  rw [hQ]
  exact ⟨by first | rfl | (simp [*]; done) | (simp_all; done) | grind, by first | rfl | (simp [*]; done), rfl⟩

set_option maxHeartbeats 1000000 in
set_option maxRecDepth 100000 in
theorem tX9_levels_ok (l : Launch) (X : lk_G) (d : Nat) (σ : lk_N) (τ : lk_T) (V T : lk_O) (n : Nat) (hV : lk_cok V n) (hw : ∀ r, r < n + 1 → 0 ≤ (V 6 r).toInt ∧ (V 6 r).toInt ≤ 9999) (i : Int32) (h : -1 ≤ i) : lk_Mt l X mX9_levels (d + 1) [lk_vr 1 0, lk_vi (i)] (lk_ms σ V T) τ (fun rr σ1 τ1 => rr = some (lk_vi (lk_lvs V n i)) ∧ σ1 = (lk_ms σ V T) ∧ τ1 = τ) := by
  refine lk_met (L := [(0, lk_vr 1 0), (1, lk_vi (i))]) (by decide +kernel) (Nat.le_of_ble_eq_true rfl) rfl ?_
  obtain ⟨Q, hQ⟩ : ∃ Q : lk_Q, Q = fun rr σ1 τ1 => rr = some (lk_vi (lk_lvs V n i)) ∧ σ1 = (lk_ms σ V T) ∧ τ1 = τ := ⟨_, rfl⟩
  rw [← hQ]
  have hn6 := hV.2.2.1
  obtain ⟨R, hR⟩ : ∃ R, R = lk_lvw V n i 8 0 (lk_llo V (-1) (n + 1)) := ⟨_, rfl⟩
  refine lk_iload_n dX9_levels_0 rfl rfl ?_
  refine lk_iconst (v := (-1)) dX9_levels_1 (by decide) ?_
  refine lk_icmp_ge (tgt := 7) dX9_levels_2 (by decide) (fun hh1 => ?_) (fun hh1 => absurd hh1 (by intro q; exact q h))
  refine lk_iconst (v := 0) dX9_levels_7 (by decide) ?_
  refine lk_istore_n (L' := [(0, lk_vr 1 0), (1, lk_vi (i)), (2, lk_vi 0)]) dX9_levels_8 rfl (by decide +kernel) rfl ?_
  refine lk_iconst (v := (-1)) dX9_levels_9 (by decide) ?_
  refine lk_istore_n (L' := [(0, lk_vr 1 0), (1, lk_vi (i)), (2, lk_vi 0), (3, lk_vi (-1))]) dX9_levels_10 rfl (by decide +kernel) rfl ?_
  refine lk_iconst (v := 1) dX9_levels_11 (by decide) ?_
  refine lk_istore (L' := [(0, lk_vr 1 0), (1, lk_vi (i)), (2, lk_vi 0), (3, lk_vi (-1)), (4, lk_vi 1)]) dX9_levels_12 (by decide +kernel) rfl ?_
  have LP14 : ∀ (fu : Nat) (t : Nat) (y : Int32), t ≤ 7 → -1 ≤ y.toInt → lk_ct (fun r => decide (y < V 6 r)) (n + 1) + t ≤ n + 1 → R = lk_lvw V n i (8 - t) t (lk_llo V y (n + 1)) → 8 - t < fu → lk_W l X mX9_levels (d + 1) 14 [(0, lk_vr 1 0), (1, lk_vi (i)), (2, lk_vi (nI (t))), (3, lk_vi (y)), (4, lk_vi 1)] [] (lk_ms σ V T) τ Q := by
    intro fu
    induction fu with
    | zero => intro t y ht hy1 hc hI hfu; exact absurd hfu (by omega)
    | succ fu ih =>
      intro t y ht hy1 hc hI hfu
      have ih14 := ih
      refine lk_iload dX9_levels_14 rfl ?_
      refine lk_if_eq (tgt := 116) dX9_levels_16 (by decide) (fun hh2 => absurd hh2 (by decide)) (fun hh2 => ?_)
      refine lk_ldc dX9_levels_19 kX9_192 ?_
      refine lk_istore (L' := [(0, lk_vr 1 0), (1, lk_vi (i)), (2, lk_vi (nI (t))), (3, lk_vi (y)), (4, lk_vi 1), (5, lk_vi 1000000)]) dX9_levels_21 (by decide +kernel) rfl ?_
      refine lk_iconst (v := 0) dX9_levels_23 (by decide) ?_
      refine lk_istore (L' := [(0, lk_vr 1 0), (1, lk_vi (i)), (2, lk_vi (nI (t))), (3, lk_vi (y)), (4, lk_vi 1), (5, lk_vi 1000000), (6, lk_vi 0)]) dX9_levels_24 (by decide +kernel) rfl ?_
      have LP26 : ∀ (fu : Nat) (p : Nat), p ≤ n + 1 → n + 1 - p < fu → lk_W l X mX9_levels (d + 1) 26 [(0, lk_vr 1 0), (1, lk_vi (i)), (2, lk_vi (nI (t))), (3, lk_vi (y)), (4, lk_vi 1), (5, lk_vi (lk_mnx V y p)), (6, lk_vi (nI (p)))] [] (lk_ms σ V T) τ Q := by
        intro fu
        induction fu with
        | zero => intro p hr hfu; exact absurd hfu (by omega)
        | succ fu ih =>
          intro p hr hfu
          refine lk_iload dX9_levels_26 rfl ?_
          refine lk_aload_n dX9_levels_28 rfl rfl ?_
          refine lk_getR (f := 0) dX9_levels_29 rfl fX9_9 (by decide) (by decide) ?_
          refine lk_bipush (v := 53) dX9_levels_32 (by decide) ?_
          refine lk_ialdN (f := 0) (i := 53) dX9_levels_34 rfl (by decide) rfl (by omega) (by decide) ?_
          refine lk_eqtop (y := (nI (n))) ((lk_r0 rfl rfl).trans hV.1) ?_
          refine lk_icmp_gtN (a := p) (b := n) (tgt := 75) dX9_levels_35 (by decide) (by omega) (by omega) (fun hh3 => ?_) (fun hh3 => ?_)
          ·
            have hrn : p = n + 1 := by omega
            subst hrn
            have hm := lk_mnl hy1 (n + 1) hw
            refine lk_iload dX9_levels_75 rfl ?_
            refine lk_ldc dX9_levels_77 kX9_192 ?_
            refine lk_icmp_ge (tgt := 86) dX9_levels_79 (by decide) (fun hh4 => ?_) (fun hh4 => ?_)
            ·
              refine lk_iconst (v := 0) dX9_levels_86 (by decide) ?_
              refine lk_istore (L' := [(0, lk_vr 1 0), (1, lk_vi (i)), (2, lk_vi (nI (t))), (3, lk_vi (y)), (4, lk_vi 0), (5, lk_vi (lk_mnx V y (n + 1))), (6, lk_vi (nI ((n + 1))))]) dX9_levels_87 (by decide +kernel) rfl ?_
              refine lk_iload dX9_levels_89 rfl ?_
              refine lk_if_eq (tgt := 102) dX9_levels_91 (by decide) (fun hh5 => ?_) (fun hh5 => absurd hh5 (by decide))
              refine lk_iload dX9_levels_102 rfl ?_
              refine lk_istore_n (L' := [(0, lk_vr 1 0), (1, lk_vi (i)), (2, lk_vi (nI (t))), (3, lk_vi (lk_mnx V y (n + 1))), (4, lk_vi 0), (5, lk_vi (lk_mnx V y (n + 1))), (6, lk_vi (nI ((n + 1))))]) dX9_levels_104 rfl (by decide +kernel) rfl ?_
              refine lk_iload dX9_levels_105 rfl ?_
              refine lk_if_eq (tgt := 113) dX9_levels_107 (by decide) (fun hh6 => ?_) (fun hh6 => absurd hh6 (by decide))
              refine lk_goto (tgt := 14) dX9_levels_113 (by decide) ?_
              refine lk_iload dX9_levels_14 rfl ?_
              refine lk_if_eq (tgt := 116) dX9_levels_16 (by decide) (fun hh7 => ?_) (fun hh7 => absurd hh7 (by decide))
              refine lk_iload_n dX9_levels_116 rfl rfl ?_
              refine lk_iconst (v := (-1)) dX9_levels_117 (by decide) ?_
              refine lk_icmp_ne (tgt := 125) dX9_levels_118 (by decide) (fun hh8 => ?_) (fun hh8 => ?_)
              ·
                refine lk_bipush (v := (-2)) dX9_levels_125 (by decide) ?_
                refine lk_iret .int dX9_levels_127 rfl rfl ?_
                rw [hQ]
                rcases hm with ⟨i1, i2, i3⟩ | ⟨i1, i2, i3, i4, i5⟩
                · rw [show 8 - t = (8 - (t + 1)) + 1 by omega, lk_lvw, if_pos (Or.inl (by rw [i2]; decide))] at hI
                  refine ⟨?_, rfl, rfl⟩
                  unfold lk_lvs
                  rw [← hR, hI]
                  simp only []
                  rw [if_neg (by assumption)]
                · exfalso
                  have q := Int32.le_iff_toInt_le.mp (show (1000000 : Int32) ≤ lk_mnx V y (n + 1) by assumption)
                  rw [i1, show (1000000 : Int32).toInt = 1000000 from rfl] at q
                  omega
              ·
                refine lk_iload_n dX9_levels_121 rfl rfl ?_
                refine lk_goto (tgt := 127) dX9_levels_122 (by decide) ?_
                refine lk_iret .int dX9_levels_127 rfl rfl ?_
                rw [hQ]
                rcases hm with ⟨i1, i2, i3⟩ | ⟨i1, i2, i3, i4, i5⟩
                · rw [show 8 - t = (8 - (t + 1)) + 1 by omega, lk_lvw, if_pos (Or.inl (by rw [i2]; decide))] at hI
                  refine ⟨?_, rfl, rfl⟩
                  unfold lk_lvs
                  rw [← hR, hI]
                  simp only []
                  rw [if_pos (by assumption)]
                · exfalso
                  have q := Int32.le_iff_toInt_le.mp (show (1000000 : Int32) ≤ lk_mnx V y (n + 1) by assumption)
                  rw [i1, show (1000000 : Int32).toInt = 1000000 from rfl] at q
                  omega
            ·
              refine lk_iconst (v := 1) dX9_levels_82 (by decide) ?_
              refine lk_goto (tgt := 87) dX9_levels_83 (by decide) ?_
              refine lk_istore (L' := [(0, lk_vr 1 0), (1, lk_vi (i)), (2, lk_vi (nI (t))), (3, lk_vi (y)), (4, lk_vi 1), (5, lk_vi (lk_mnx V y (n + 1))), (6, lk_vi (nI ((n + 1))))]) dX9_levels_87 (by decide +kernel) rfl ?_
              refine lk_iload dX9_levels_89 rfl ?_
              refine lk_if_eq (tgt := 102) dX9_levels_91 (by decide) (fun hh9 => absurd hh9 (by decide)) (fun hh9 => ?_)
              refine lk_iload_n dX9_levels_94 rfl rfl ?_
              refine lk_iload_n dX9_levels_95 rfl rfl ?_
              refine lk_icmp_ne (tgt := 102) dX9_levels_96 (by decide) (fun hh10 => ?_) (fun hh10 => ?_)
              ·
                refine lk_iload dX9_levels_102 rfl ?_
                refine lk_istore_n (L' := [(0, lk_vr 1 0), (1, lk_vi (i)), (2, lk_vi (nI (t))), (3, lk_vi (lk_mnx V y (n + 1))), (4, lk_vi 1), (5, lk_vi (lk_mnx V y (n + 1))), (6, lk_vi (nI ((n + 1))))]) dX9_levels_104 rfl (by decide +kernel) rfl ?_
                refine lk_iload dX9_levels_105 rfl ?_
                refine lk_if_eq (tgt := 113) dX9_levels_107 (by decide) (fun hh11 => absurd hh11 (by decide)) (fun hh11 => ?_)
                refine lk_iincN (a := t) (m := 1) (L' := [(0, lk_vr 1 0), (1, lk_vi (i)), (2, lk_vi (nI (t + 1))), (3, lk_vi (lk_mnx V y (n + 1))), (4, lk_vi 1), (5, lk_vi (lk_mnx V y (n + 1))), (6, lk_vi (nI ((n + 1))))]) dX9_levels_110 rfl rfl (by decide +kernel) rfl ?_
                refine lk_goto (tgt := 14) dX9_levels_113 (by decide) ?_
                refine lk_sub (L' := [(0, lk_vr 1 0), (1, lk_vi (i)), (2, lk_vi (nI (t + 1))), (3, lk_vi (lk_mnx V y (n + 1))), (4, lk_vi 1)]) [0, 1, 2, 3, 4] rfl ?_
                rcases hm with ⟨i1, i2, i3⟩ | ⟨i1, i2, i3, i4, i5⟩
                · exact absurd (show (1000000 : Int32) ≤ lk_mnx V y (n + 1) by rw [i1]; decide) (by assumption)
                have hl := lk_lvn i4 i5
                rw [show 8 - t = (8 - (t + 1)) + 1 by omega, lk_lvw, if_neg (by rintro (z | z) <;> first | (have := Int32.lt_iff_toInt_lt.mp z; rw [show (0 : Int32).toInt = 0 from rfl] at this; omega) | omega), if_neg (by assumption)] at hI
                rw [i1]
                exact ih14 (t + 1) _ (by omega) (by omega) (by omega) hI (by omega)
              ·
                refine lk_iload dX9_levels_99 rfl ?_
                refine lk_iret .int dX9_levels_101 rfl rfl ?_
                rw [hQ]
                rcases hm with ⟨i1, i2, i3⟩ | ⟨i1, i2, i3, i4, i5⟩
                · exact absurd (show (1000000 : Int32) ≤ lk_mnx V y (n + 1) by rw [i1]; decide) (by assumption)
                have hl := lk_lvn i4 i5
                rw [show 8 - t = (8 - (t + 1)) + 1 by omega, lk_lvw, if_neg (by rintro (z | z) <;> first | (have := Int32.lt_iff_toInt_lt.mp z; rw [show (0 : Int32).toInt = 0 from rfl] at this; omega) | omega), if_pos (by assumption)] at hI
                refine ⟨?_, rfl, rfl⟩
                unfold lk_lvs
                rw [← hR, hI, i1]
          ·
            refine lk_aload_n dX9_levels_38 rfl rfl ?_
            refine lk_getR (f := 0) dX9_levels_39 rfl fX9_9 (by decide) (by decide) ?_
            refine lk_bipush (v := 24) dX9_levels_42 (by decide) ?_
            refine lk_iload dX9_levels_44 rfl ?_
            refine lk_iaddN (a := 24) (b := p) dX9_levels_46 ?_
            refine lk_ialdN (f := 0) (i := 24 + p) dX9_levels_47 rfl (by decide) rfl (by omega) (by decide) ?_
            refine lk_eqtop (y := (V 6 (p))) (lk_r6 (by omega) (by omega)) ?_
            refine lk_iload_n dX9_levels_48 rfl rfl ?_
            refine lk_icmp_le (tgt := 69) dX9_levels_49 (by decide) (fun hh12 => ?_) (fun hh12 => ?_)
            ·
              refine lk_iincN (a := p) (m := 1) (L' := [(0, lk_vr 1 0), (1, lk_vi (i)), (2, lk_vi (nI (t))), (3, lk_vi (y)), (4, lk_vi 1), (5, lk_vi (lk_mnx V y p)), (6, lk_vi (nI (p + 1)))]) dX9_levels_69 rfl rfl (by decide +kernel) rfl ?_
              refine lk_goto (tgt := 26) dX9_levels_72 (by decide) ?_
              have e1 : lk_mnx V y (p + 1) = (lk_mnx V y p) := by
                show (if y < V 6 p then _ else _) = _
                first | rw [if_pos (by first | assumption | exact Int32.not_le.mp (by assumption))] | rw [if_neg (by first | assumption | exact Int32.not_lt.mpr (by assumption))]
              rw [← e1]
              exact ih (p + 1) (by omega) (by omega)
            ·
              refine lk_iload dX9_levels_52 rfl ?_
              refine lk_aload_n dX9_levels_54 rfl rfl ?_
              refine lk_getR (f := 0) dX9_levels_55 rfl fX9_9 (by decide) (by decide) ?_
              refine lk_bipush (v := 24) dX9_levels_58 (by decide) ?_
              refine lk_iload dX9_levels_60 rfl ?_
              refine lk_iaddN (a := 24) (b := p) dX9_levels_62 ?_
              refine lk_ialdN (f := 0) (i := 24 + p) dX9_levels_63 rfl (by decide) rfl (by omega) (by decide) ?_
              refine lk_eqtop (y := (V 6 (p))) (lk_r6 (by omega) (by omega)) ?_
              refine lk_mmin dX9_levels_64 lX9_177 (Nat.le_of_ble_eq_true rfl) ?_
              refine lk_istore (L' := [(0, lk_vr 1 0), (1, lk_vi (i)), (2, lk_vi (nI (t))), (3, lk_vi (y)), (4, lk_vi 1), (5, lk_vi (if (V 6 (p)) < (lk_mnx V y p) then (V 6 (p)) else (lk_mnx V y p))), (6, lk_vi (nI (p)))]) dX9_levels_67 (by decide +kernel) rfl ?_
              refine lk_iincN (a := p) (m := 1) (L' := [(0, lk_vr 1 0), (1, lk_vi (i)), (2, lk_vi (nI (t))), (3, lk_vi (y)), (4, lk_vi 1), (5, lk_vi (if (V 6 (p)) < (lk_mnx V y p) then (V 6 (p)) else (lk_mnx V y p))), (6, lk_vi (nI (p + 1)))]) dX9_levels_69 rfl rfl (by decide +kernel) rfl ?_
              refine lk_goto (tgt := 26) dX9_levels_72 (by decide) ?_
              have e1 : lk_mnx V y (p + 1) = (if (V 6 (p)) < (lk_mnx V y p) then (V 6 (p)) else (lk_mnx V y p)) := by
                show (if y < V 6 p then _ else _) = _
                first | rw [if_pos (by first | assumption | exact Int32.not_le.mp (by assumption))] | rw [if_neg (by first | assumption | exact Int32.not_lt.mpr (by assumption))]
              rw [← e1]
              exact ih (p + 1) (by omega) (by omega)
      exact LP26 (n + 2) 0 (by omega) (by omega)
  exact LP14 9 0 _ (by omega) (by decide) (by have := lk_ct_m (f := fun r => decide (-1 < V 6 r)) (n + 1); omega) hR (by omega)
