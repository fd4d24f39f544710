theorem tX9_weaves_r (l : Launch) (X : lk_G) : ∀ (r d : Nat) (σ : lk_N) (τ : lk_T) (V T : lk_O) (n k : Nat) (hV : lk_cok V n) (hr : lk_rok V) (hk : k < n) (B : lk_O) (nf : Nat) (hn12 : nf ≤ 12) (hB : lk_bv σ B nf) (hz : ∀ b, b < nf → 0 ≤ (B 1 b).toInt ∧ (B 1 b).toInt ≤ 9) (hq : lk_lq σ (lk_qb B nf k) (lk_qa B nf k)) (bb aa : Nat) (hbb : bb = min (lk_qb B nf k).1 6) (haa : aa = min (lk_qa B nf k).1 6) (i j : Nat) (so : Int32) (hi : i ≤ bb) (hj : j ≤ aa) (a : lk_a) (row : Nat → Int32) (hg : σ 1 25 0 = nI a.1) (hb : σ 1 26 0 = a.2.1) (hrw : ∀ x, σ 1 28 x = a.2.2 x) (hro : ∀ x, x < i + j → σ 1 27 x = row x) (hrr : r = bb + aa - i - j), lk_Mt l X mX9_weaves (d + r + 3) [lk_vr 1 0, lk_vi (nI k), lk_vi (nI i), lk_vi (nI j), lk_vi so] (lk_ms σ V T) τ (fun rr σ1 τ1 => rr = none ∧ τ1 = τ ∧ ∃ W : lk_N, σ1 = lk_ms W V T ∧ lk_wvP σ W (i + j) (lk_wvm (B 1) (lk_qb B nf k).2 (lk_qa B nf k).2 k bb aa r i j so V a row))
  | 0, d, σ, τ, V, T, n, k, hV, hr, hk, B, nf, hn12, hB, hz, hq, bb, aa, hbb, haa, i, j, so, hi, hj, a, row, hg, hb, hrw, hro, hrr =>
    tX9_weaves_0 l X d σ τ V T n k hV hr hk B nf hn12 hB hz hq bb aa hbb haa i j so hi hj a row hg hb hrw hro (by omega) (by omega)
  | r + 1, d, σ, τ, V, T, n, k, hV, hr, hk, B, nf, hn12, hB, hz, hq, bb, aa, hbb, haa, i, j, so, hi, hj, a, row, hg, hb, hrw, hro, hrr =>
    tX9_weaves_s l X (d + (r + 1)) σ τ V T n k hV hr hk B nf hn12 hB hz hq bb aa hbb haa i j so hi hj a row hg hb hrw hro r hrr
      (fun σ2 V2 i2 j2 so2 a2 row2 hV2 hr2 hB2 hq2 hi2 hj2 hrr2 hg2 hb2 hrw2 hro2 =>
        tX9_weaves_r l X r d σ2 τ V2 T n k hV2 hr2 hk B nf hn12 hB2 hz hq2 bb aa hbb haa i2 j2 so2 hi2 hj2 a2 row2 hg2 hb2 hrw2 hro2 hrr2)
theorem tX9_weaves_a (l : Launch) (X : lk_G) (d : Nat) (σ : lk_N) (τ : lk_T) (V T : lk_O) (n k : Nat) (hV : lk_cok V n) (hr : lk_rok V) (hk : k < n) (B : lk_O) (nf : Nat) (hn12 : nf ≤ 12) (hB : lk_bv σ B nf) (hz : ∀ b, b < nf → 0 ≤ (B 1 b).toInt ∧ (B 1 b).toInt ≤ 9) (hq : lk_lq σ (lk_qb B nf k) (lk_qa B nf k)) (bb aa : Nat) (hbb : bb = min (lk_qb B nf k).1 6) (haa : aa = min (lk_qa B nf k).1 6) (i j : Nat) (so : Int32) (hi : i ≤ bb) (hj : j ≤ aa) (a : lk_a) (row : Nat → Int32) (hg : σ 1 25 0 = nI a.1) (hb : σ 1 26 0 = a.2.1) (hrw : ∀ x, σ 1 28 x = a.2.2 x) (hro : ∀ x, x < i + j → σ 1 27 x = row x) : lk_Mt l X mX9_weaves (d + 15) [lk_vr 1 0, lk_vi (nI k), lk_vi (nI i), lk_vi (nI j), lk_vi so] (lk_ms σ V T) τ (fun rr σ1 τ1 => rr = none ∧ τ1 = τ ∧ ∃ W : lk_N, σ1 = lk_ms W V T ∧ lk_wvP σ W (i + j) (lk_wvm (B 1) (lk_qb B nf k).2 (lk_qa B nf k).2 k bb aa (bb + aa - i - j) i j so V a row)) := by
  have h := tX9_weaves_r l X (bb + aa - i - j) (d + (12 - (bb + aa - i - j))) σ τ V T n k hV hr hk B nf hn12 hB hz hq bb aa hbb haa i j so hi hj a row hg hb hrw hro rfl
  rwa [show d + (12 - (bb + aa - i - j)) + (bb + aa - i - j) + 3 = d + 15 by omega] at h
/-! the recursion finds what the masks find -/
def lk_wvs (Z : Nat → Int32) (qb qa : Nat → Nat) (k N A : Nat) (V : lk_O) (m : Nat) (c : Nat × Int32 × Nat) : Nat × Int32 × Nat := if lk_onz N m = A then lk_wg c m (lk_spo Z qb qa k m N 0 0 0 V) else c
def lk_wvf (f : Nat → (Nat × Int32 × Nat) → (Nat × Int32 × Nat)) (s : Nat) : Nat → (Nat × Int32 × Nat) → (Nat × Int32 × Nat)
  | 0, c => c
  | n + 1, c => f (s + n) (lk_wvf f s n c)
theorem lk_wvo_f (Z : Nat → Int32) (qb qa : Nat → Nat) (k N A : Nat) (V : lk_O) : ∀ M, lk_wvo Z qb qa k N A V M = lk_wvf (lk_wvs Z qb qa k N A V) 0 M (0, 0, 0)
  | 0 => rfl
  | M + 1 => by
    have ih := lk_wvo_f Z qb qa k N A V M
    simp only [lk_wvo, lk_wvf, lk_wvs, Nat.zero_add]
    rw [ih]
theorem lk_wvf_add (f : Nat → (Nat × Int32 × Nat) → (Nat × Int32 × Nat)) (s a : Nat) (c : Nat × Int32 × Nat) : ∀ b, lk_wvf f s (a + b) c = lk_wvf f (s + a) b (lk_wvf f s a c)
  | 0 => rfl
  | b + 1 => by
    show f (s + (a + b)) (lk_wvf f s (a + b) c) = f (s + a + b) _
    rw [lk_wvf_add f s a c b, Nat.add_assoc]
theorem lk_wvf_id (f : Nat → (Nat × Int32 × Nat) → (Nat × Int32 × Nat)) (s : Nat) (c : Nat × Int32 × Nat) : ∀ n, (∀ m, s ≤ m → m < s + n → ∀ c, f m c = c) → lk_wvf f s n c = c
  | 0, _ => rfl
  | n + 1, h => by
    show f (s + n) (lk_wvf f s n c) = c
    rw [h (s + n) (by omega) (by omega), lk_wvf_id f s c n (fun m h1 h2 => h m h1 (by omega))]
theorem lk_bit0 {s m r : Nat} (hs : s % 2 ^ (r + 1) = 0) (h1 : s ≤ m) (h2 : m < s + 2 ^ r) : m / 2 ^ r % 2 = 0 := by
  obtain ⟨t, rfl⟩ := Nat.dvd_of_mod_eq_zero hs
  obtain ⟨q, rfl⟩ := Nat.exists_eq_add_of_le h1
  have hP : 0 < 2 ^ r := Nat.pow_pos (by decide)
  rw [show 2 ^ (r + 1) * t + q = q + 2 ^ r * (2 * t) by rw [Nat.pow_succ, Nat.mul_assoc]; omega, Nat.add_mul_div_left _ _ hP, Nat.div_eq_of_lt (by omega)]
  omega
theorem lk_bit1 {s m r : Nat} (hs : s % 2 ^ (r + 1) = 0) (h1 : s + 2 ^ r ≤ m) (h2 : m < s + 2 ^ r + 2 ^ r) : m / 2 ^ r % 2 = 1 := by
  obtain ⟨t, rfl⟩ := Nat.dvd_of_mod_eq_zero hs
  obtain ⟨q, rfl⟩ := Nat.exists_eq_add_of_le h1
  have hP : 0 < 2 ^ r := Nat.pow_pos (by decide)
  rw [show 2 ^ (r + 1) * t + 2 ^ r + q = q + 2 ^ r * (2 * t + 1) by rw [Nat.pow_succ, Nat.mul_assoc, Nat.mul_add]; omega, Nat.add_mul_div_left _ _ hP, Nat.div_eq_of_lt (by omega)]
  omega
theorem lk_onz_r : ∀ r m, lk_onz r m ≤ r
  | 0, _ => Nat.le_refl _
  | r + 1, m => by have := lk_onz_r r m; simp only [lk_onz]; have := Nat.mod_lt (m / 2 ^ r) (show 0 < 2 by decide); omega
/-- what the two have found agrees -/
def lk_wre (qb qa : Nat → Nat) (N : Nat) (a : lk_a) (c : Nat × Int32 × Nat) : Prop :=
  a.1 = c.1 ∧ (c.1 = 0 → a.2.1 = 1000000) ∧ (¬ c.1 = 0 → a.2.1 = c.2.1 ∧ ∀ x, x < N → a.2.2 x = nI (lk_bob qb qa N c.2.2 x))
theorem lk_wvm_f {Z : Nat → Int32} {qb qa : Nat → Nat} {k n bb aa : Nat} {V0 : lk_O} (hk : k < n) (hzb : ∀ i, i < bb → 0 ≤ (Z (qb i)).toInt ∧ (Z (qb i)).toInt ≤ 9) (hza : ∀ i, i < aa → 0 ≤ (Z (qa i)).toInt ∧ (Z (qa i)).toInt ≤ 9) (hN : bb + aa ≤ 12) :
    ∀ (r i j : Nat) (so : Int32) (V : lk_O) (a : lk_a) (row : Nat → Int32) (s : Nat) (c : Nat × Int32 × Nat), i ≤ bb → j ≤ aa → r = bb + aa - i - j → lk_cok V n → s % 2 ^ r = 0 → -9 * (i + j : Nat) ≤ so.toInt → so.toInt ≤ 108 * (i + j : Nat) → lk_wre qb qa (bb + aa) a c →
      (∀ m, s ≤ m → m < s + 2 ^ r → lk_spo Z qb qa k m (bb + aa) 0 0 0 V0 = lk_spo Z qb qa k m r i j so V ∧ (∀ x, x < i + j → row x = nI (lk_bob qb qa (bb + aa) m x)) ∧ lk_cz (bb + aa) m (i + j) = i ∧ lk_onz (bb + aa) m = j + lk_onz r m) →
      lk_wre qb qa (bb + aa) (lk_wvm Z qb qa k bb aa r i j so V a row) (lk_wvf (lk_wvs Z qb qa k (bb + aa) aa V0) s (2 ^ r) c)
  | 0, i, j, so, V, a, row, s, c, hi, hj, hr, hV, hs, hl, hu, hre, hm => by
    obtain ⟨h1, h2, h3, h4⟩ := hm s (Nat.le_refl _) (by simp)
    have hi2 : i = bb := by omega
    have hj2 : j = aa := by omega
    have ho : lk_onz (bb + aa) s = aa := by rw [h4, hj2]; rfl
    have hso : so < 1000000 := Int32.lt_iff_toInt_lt.mpr (by rw [show (1000000 : Int32).toInt = 1000000 from rfl]; omega)
    show lk_wre qb qa (bb + aa) _ (lk_wvs Z qb qa k (bb + aa) aa V0 (s + 0) c)
    unfold lk_wvs
    rw [Nat.add_zero, if_pos ho, h1]
    obtain ⟨e1, e2, e3⟩ := hre
    have key : (so < a.2.1) ↔ (c.1 = 0 ∨ so < c.2.1) := by
      by_cases hc : c.1 = 0
      · rw [e2 hc]; simp [hc, hso]
      · rw [(e3 hc).1]; simp [hc]
    refine ⟨by show a.1 + 1 = c.1 + 1; rw [e1], fun z => absurd (show c.1 + 1 = 0 from z) (by omega), fun _ => ⟨?_, fun x hx => ?_⟩⟩
    · show (if so < a.2.1 then so else a.2.1) = if c.1 = 0 ∨ so < c.2.1 then so else c.2.1
      by_cases hb : so < a.2.1
      · rw [if_pos hb, if_pos (key.mp hb)]
      · rw [if_neg hb, if_neg (fun z => hb (key.mpr z))]
        exact (e3 (fun z => hb (key.mpr (Or.inl z)))).1
    · show (if so < a.2.1 then (fun x => if x < i + j then row x else a.2.2 x) else a.2.2) x = nI (lk_bob qb qa (bb + aa) (if c.1 = 0 ∨ so < c.2.1 then s else c.2.2) x)
      by_cases hb : so < a.2.1
      · rw [if_pos hb, if_pos (key.mp hb)]
        show (if x < i + j then row x else a.2.2 x) = _
        rw [if_pos (by omega)]
        exact h2 x (by omega)
      · rw [if_neg hb, if_neg (fun z => hb (key.mpr z))]
        exact (e3 (fun z => hb (key.mpr (Or.inl z)))).2 x hx
  | r + 1, i, j, so, V, a, row, s, c, hi, hj, hr, hV, hs, hl, hu, hre, hm => by
    have hk6 : k < 6 := Nat.lt_of_lt_of_le hk hV.2.2.1
    have hP : 2 ^ (r + 1) = 2 ^ r + 2 ^ r := by rw [Nat.pow_succ]; omega
    have hs0 : s % 2 ^ r = 0 := by
      obtain ⟨t, rfl⟩ := Nat.dvd_of_mod_eq_zero hs
      rw [Nat.pow_succ, Nat.mul_assoc]; exact Nat.mul_mod_right _ _
    have hs1 : (s + 2 ^ r) % 2 ^ r = 0 := by rw [Nat.add_mod_right]; exact hs0
    have hcz : ∀ m, lk_cz (bb + aa) m (i + j + 1) = if m / 2 ^ r % 2 = 0 then lk_cz (bb + aa) m (i + j) + 1 else lk_cz (bb + aa) m (i + j) := fun m => by
      conv => lhs; unfold lk_cz
      rw [show bb + aa - 1 - (i + j) = r by omega]
    have hbo : ∀ m, lk_bob qb qa (bb + aa) m (i + j) = if m / 2 ^ r % 2 = 0 then qb (lk_cz (bb + aa) m (i + j)) else qa (i + j - lk_cz (bb + aa) m (i + j)) := fun m => by
      unfold lk_bob
      rw [show bb + aa - 1 - (i + j) = r by omega]
    rw [hP, lk_wvf_add]
    -- the half whose next one comes from below
    have first : lk_wre qb qa (bb + aa) (if i < bb then lk_mt (lk_pas V k true (Z (qb i))) (fun V' => lk_wvm Z qb qa k bb aa r (i + 1) j (so + (V 6 (k + 1) - V' 6 (k + 1))) V' a (lk_rw row (i + j) (nI (qb i)))) a else a) (lk_wvf (lk_wvs Z qb qa k (bb + aa) aa V0) s (2 ^ r) c) := by
      by_cases hib : i < bb
      · rw [if_pos hib]
        rcases hp : lk_pas V k true (Z (qb i)) with V' | q
        · have ho := lk_pas_ok hp (hV.2.2.2 k hk6) (hzb i hib).1 (hzb i hib).2
          have e1 := lk_ta (a := so) (b := V 6 (k + 1) - V' 6 (k + 1)) rfl rfl (by omega) (by omega) (by omega) (by omega)
          refine lk_wvm_f hk hzb hza hN r (i + 1) j _ V' a _ s c (by omega) hj (by omega) (lk_pas_cok hp hk hV (hzb i hib).1 (hzb i hib).2) hs0 (by rw [e1]; omega) (by rw [e1]; omega) hre (fun m h1 h2 => ?_)
          obtain ⟨g1, g2, g3, g4⟩ := hm m h1 (by omega)
          have hb := lk_bit0 hs h1 h2
          refine ⟨?_, fun x hx => ?_, ?_, ?_⟩
          · rw [g1]; simp only [lk_spo]; rw [if_pos hb, hp]
          · simp only [lk_rw]
            by_cases e : x = i + j
            · subst e; rw [if_pos rfl, hbo, if_pos hb, g3]
            · rw [if_neg e]; exact g2 x (by omega)
          · rw [show i + 1 + j = i + j + 1 by omega, hcz, if_pos hb, g3]
          · rw [g4]; simp only [lk_onz]; omega
        · show lk_wre qb qa (bb + aa) a _
          rw [lk_wvf_id _ s c (2 ^ r) (fun m h1 h2 c => ?_)]
          · exact hre
          · obtain ⟨g1, g2, g3, g4⟩ := hm m h1 (by omega)
            have hb := lk_bit0 hs h1 h2
            unfold lk_wvs
            rw [g1]; simp only [lk_spo]; rw [if_pos hb, hp]
            split <;> rfl
      · rw [if_neg hib, lk_wvf_id _ s c (2 ^ r) (fun m h1 h2 c => ?_)]
        · exact hre
        · obtain ⟨g1, g2, g3, g4⟩ := hm m h1 (by omega)
          have hb := lk_bit0 hs h1 h2
          unfold lk_wvs
          rw [if_neg]
          rw [g4]; simp only [lk_onz]
          have := lk_onz_r r m
          omega
    have second : ∀ (a1 : lk_a) (c1 : Nat × Int32 × Nat), lk_wre qb qa (bb + aa) a1 c1 → lk_wre qb qa (bb + aa) (if j < aa then lk_mt (lk_pas V k false (Z (qa j))) (fun V' => lk_wvm Z qb qa k bb aa r i (j + 1) (so + (V 6 (k + 1) - V' 6 (k + 1))) V' a1 (lk_rw row (i + j) (nI (qa j)))) a1 else a1) (lk_wvf (lk_wvs Z qb qa k (bb + aa) aa V0) (s + 2 ^ r) (2 ^ r) c1) := by
      intro a1 c1 hre1
      by_cases hja : j < aa
      · rw [if_pos hja]
        rcases hp : lk_pas V k false (Z (qa j)) with V' | q
        · have ho := lk_pas_ok hp (hV.2.2.2 k hk6) (hza j hja).1 (hza j hja).2
          have e1 := lk_ta (a := so) (b := V 6 (k + 1) - V' 6 (k + 1)) rfl rfl (by omega) (by omega) (by omega) (by omega)
          refine lk_wvm_f hk hzb hza hN r i (j + 1) _ V' a1 _ (s + 2 ^ r) c1 hi (by omega) (by omega) (lk_pas_cok hp hk hV (hza j hja).1 (hza j hja).2) hs1 (by rw [e1]; omega) (by rw [e1]; omega) hre1 (fun m h1 h2 => ?_)
          obtain ⟨g1, g2, g3, g4⟩ := hm m (by omega) (by omega)
          have hb := lk_bit1 hs h1 h2
          have hb0 : ¬ m / 2 ^ r % 2 = 0 := by omega
          refine ⟨?_, fun x hx => ?_, ?_, ?_⟩
          · rw [g1]; simp only [lk_spo]; rw [if_neg hb0, hp]
          · simp only [lk_rw]
            by_cases e : x = i + j
            · subst e; rw [if_pos rfl, hbo, if_neg hb0, g3]; congr 2; omega
            · rw [if_neg e]; exact g2 x (by omega)
          · rw [show i + (j + 1) = i + j + 1 by omega, hcz, if_neg hb0, g3]
          · rw [g4]; simp only [lk_onz]; omega
        · show lk_wre qb qa (bb + aa) a1 _
          rw [lk_wvf_id _ (s + 2 ^ r) c1 (2 ^ r) (fun m h1 h2 c => ?_)]
          · exact hre1
          · obtain ⟨g1, g2, g3, g4⟩ := hm m (by omega) (by omega)
            have hb := lk_bit1 hs h1 h2
            have hb0 : ¬ m / 2 ^ r % 2 = 0 := by omega
            unfold lk_wvs
            rw [g1]; simp only [lk_spo]; rw [if_neg hb0, hp]
            split <;> rfl
      · rw [if_neg hja, lk_wvf_id _ (s + 2 ^ r) c1 (2 ^ r) (fun m h1 h2 c => ?_)]
        · exact hre1
        · obtain ⟨g1, g2, g3, g4⟩ := hm m (by omega) (by omega)
          have hb := lk_bit1 hs h1 h2
          unfold lk_wvs
          rw [if_neg]
          rw [g4]; simp only [lk_onz]
          omega
    exact second _ _ first
def lk_woP (σ W : lk_N) (B : lk_O) (nf k N : Nat) (c : Nat × Int32 × Nat) : Prop :=
  lk_fx [6, 7, 8, 9, 18, 19, 20, 21, 25, 26, 27, 28] σ W ∧ lk_lq W (lk_qb B nf k) (lk_qa B nf k) ∧ W 1 25 0 = nI c.1 ∧ (¬ c.1 = 0 → W 1 26 0 = c.2.1 ∧ ∀ x, x < N → W 1 28 x = nI (lk_bob (lk_qb B nf k).2 (lk_qa B nf k).2 N c.2.2 x))
theorem lk_fx_sq {σ W U : lk_N} (h : lk_fx [18, 19, 20, 21] σ W) (g : lk_fx [6, 7, 8, 9, 25, 26, 27, 28] (lk_up (lk_up W 1 25 0 0) 1 26 0 1000000) U) : lk_fx [6, 7, 8, 9, 18, 19, 20, 21, 25, 26, 27, 28] σ U :=
  lk_fx_tr (lk_fx_up (lk_fx_up (lk_fx_mo h (by decide)) (by decide)) (by decide)) (lk_fx_mo g (by decide))
theorem lk_wvm_0 {B V : lk_O} {nf n k bb aa : Nat} (hk : k < n) (hV : lk_cok V n) (hz : ∀ b, b < nf → 0 ≤ (B 1 b).toInt ∧ (B 1 b).toInt ≤ 9) (hbb : bb = min (lk_qb B nf k).1 6) (haa : aa = min (lk_qa B nf k).1 6) (br row : Nat → Int32) :
    lk_wre (lk_qb B nf k).2 (lk_qa B nf k).2 (bb + aa) (lk_wvm (B 1) (lk_qb B nf k).2 (lk_qa B nf k).2 k bb aa (bb + aa - 0 - 0) 0 0 0 V (0, 1000000, br) row) (lk_wvo (B 1) (lk_qb B nf k).2 (lk_qa B nf k).2 k (bb + aa) aa V (2 ^ (bb + aa))) := by
  rw [lk_wvo_f]
  exact lk_wvm_f hk (fun i hi => hz _ (lk_gat_lt B (nI k) 1 nf i (show i < (lk_qb B nf k).1 by omega))) (fun i hi => hz _ (lk_gat_lt B (nI (k + 1)) 0 nf i (show i < (lk_qa B nf k).1 by omega))) (by omega) (bb + aa) 0 0 0 V (0, 1000000, br) row 0 (0, 0, 0) (by omega) (by omega) (by omega) hV (Nat.zero_mod _) (by decide) (by decide) ⟨rfl, fun _ => rfl, fun z => absurd rfl z⟩ (fun m _ _ => ⟨rfl, fun x hx => absurd hx (by omega), rfl, (Nat.zero_add _).symm⟩)
theorem lk_p12 {N : Nat} (h : N ≤ 12) : 2 ^ N ≤ 4096 := Nat.pow_le_pow_right (n := 2) (by decide) h
theorem lk_m1_le {i : Nat} (h : i < 2147483648) : ¬ ¬ (-1 : Int32) ≤ nI i := by
  intro q; apply q; apply Int32.le_iff_toInt_le.mpr
  rw [nI_toInt h, show (-1 : Int32).toInt = -1 from rfl]; omega
theorem lk_m1_t {N : Nat} (h : N ≤ 12) : (nI N - 1).toInt = (N : Int) - 1 := by
  rw [lk_ts (nI_toInt (by omega)) (show (1 : Int32).toInt = 1 from rfl) (by omega) (by omega) (by decide) (by decide)]
theorem lk_m1_n {N : Nat} (h : N ≤ 12) : (-1 : Int32) ≤ nI N - 1 := by
  apply Int32.le_iff_toInt_le.mpr
  rw [lk_m1_t h, show (-1 : Int32).toInt = -1 from rfl]; omega
theorem lk_wi_i {N i : Nat} (h : N ≤ 12) (hi : i < 2147483648) (hh : -1 ≤ nI i ∧ nI i ≤ nI N - 1) : i < N := by
  have := Int32.le_iff_toInt_le.mp hh.2
  rw [lk_m1_t h, nI_toInt hi] at this
  omega
theorem lk_wi_n {N i : Nat} (h : N ≤ 12) (hi : i < 2147483648) (hh : ¬ (-1 ≤ nI i ∧ nI i ≤ nI N - 1)) : N ≤ i := by
  rcases Nat.lt_or_ge i N with q | q
  · exfalso
    apply hh
    refine ⟨Int32.le_iff_toInt_le.mpr ?_, Int32.le_iff_toInt_le.mpr ?_⟩
    · rw [nI_toInt hi, show (-1 : Int32).toInt = -1 from rfl]; omega
    · rw [lk_m1_t h, nI_toInt hi]; omega
  · exact q
set_option maxHeartbeats 1000000 in
set_option maxRecDepth 100000 in
theorem tX9_weavesAll (l : Launch) (X : lk_G) (d : Nat) (σ : lk_N) (τ : lk_T) (V T : lk_O) (n k : Nat) (ha : lk_all V n) (hk : k < n) (B : lk_O) (nf : Nat) (hn : σ 1 0 114 = nI nf) (hn12 : nf ≤ 12) (hB : lk_bv σ B nf) (hz : ∀ b, b < nf → 0 ≤ (B 1 b).toInt ∧ (B 1 b).toInt ≤ 9) (bb aa : Nat) (hbb : bb = min (lk_qb B nf k).1 6) (haa : aa = min (lk_qa B nf k).1 6) : lk_Mt l X mX9_weavesAll (d + 16) [lk_vr 1 0, lk_vi (nI (k))] (lk_ms σ V T) τ (fun rr σ1 τ1 => rr = none ∧ τ1 = τ ∧ ∃ W : lk_N, σ1 = lk_ms W V T ∧ lk_woP σ W B nf k (bb + aa) (lk_wvo (B 1) (lk_qb B nf k).2 (lk_qa B nf k).2 k (bb + aa) aa V (2 ^ (bb + aa)))) := by
  refine lk_met (L := [(0, lk_vr 1 0), (1, lk_vi (nI (k)))]) (by decide +kernel) (Nat.le_of_ble_eq_true rfl) rfl ?_
  obtain ⟨Q, hQ⟩ : ∃ Q : lk_Q, Q = fun rr σ1 τ1 => rr = none ∧ τ1 = τ ∧ ∃ W : lk_N, σ1 = lk_ms W V T ∧ lk_woP σ W B nf k (bb + aa) (lk_wvo (B 1) (lk_qb B nf k).2 (lk_qa B nf k).2 k (bb + aa) aa V (2 ^ (bb + aa))) := ⟨_, rfl⟩
  rw [← hQ]
  have hk6 : k < 6 := Nat.lt_of_lt_of_le hk ha.1.2.2.1
  refine lk_aload_n dX9_weavesAll_0 rfl rfl ?_
  refine lk_iload_n dX9_weavesAll_1 rfl rfl ?_
  refine lk_callV (o := 1) (as := [lk_vi (nI (k))]) (S := []) dX9_weavesAll_2 rfl vX9_queuesOf rfl lX9_174 rfl rfl (Nat.le_of_ble_eq_true rfl) (tX9_queuesOf l X (d + 14) σ τ (k := (k)) (V := V) (T := T) (B := B) (nf := nf) (hn := hn) (hn12 := hn12) (hB := hB) (hk := hk6)) ?_
  refine lk_k4 (fun W0 hW0 => ?_)
  obtain ⟨W0f, W0a, W0b, W0c, W0d⟩ := hW0
  refine lk_cast (pc' := 5) (S' := []) rfl rfl rfl ?_
  refine lk_sg (σ' := (lk_ms W0 V T)) rfl ?_
  refine lk_aload_n dX9_weavesAll_5 rfl rfl ?_
  refine lk_iconst (v := 0) dX9_weavesAll_6 (by decide) ?_
  refine lk_putI (f := 25) dX9_weavesAll_7 rfl fX9_182 (by decide) (by decide) ?_
  refine lk_sg (σ' := (lk_ms (lk_up W0 1 25 0 0) V T)) (lk_wf (by decide)) ?_
  refine lk_aload_n dX9_weavesAll_10 rfl rfl ?_
  refine lk_ldc dX9_weavesAll_11 kX9_192 ?_
  refine lk_putI (f := 26) dX9_weavesAll_13 rfl fX9_185 (by decide) (by decide) ?_
  refine lk_sg (σ' := (lk_ms (lk_up (lk_up W0 1 25 0 0) 1 26 0 1000000) V T)) (lk_wf (by decide)) ?_
  refine lk_aload_n dX9_weavesAll_16 rfl rfl ?_
  refine lk_iload_n dX9_weavesAll_17 rfl rfl ?_
  refine lk_iconst (v := 0) dX9_weavesAll_18 (by decide) ?_
  refine lk_iconst (v := 0) dX9_weavesAll_19 (by decide) ?_
  refine lk_iconst (v := 0) dX9_weavesAll_20 (by decide) ?_
  refine lk_callV (o := 1) (as := [lk_vi (nI (k)), lk_vi 0, lk_vi 0, lk_vi 0]) (S := []) dX9_weavesAll_21 rfl vX9_weaves rfl lX9_188 rfl rfl (Nat.le_of_ble_eq_true rfl) (tX9_weaves_a l X d (lk_up (lk_up W0 1 25 0 0) 1 26 0 1000000) τ (k := (k)) (i := (0)) (j := (0)) (so := (0 : Int32)) (V := V) (T := T) (n := n) (B := B) (nf := nf) (hV := ha.1) (hr := ha.2.1) (hk := hk) (hn12 := hn12) (hB := lk_bv_e (funext fun x => W0f 1 0 x (by decide)) hB) (hz := hz) (hq := ⟨W0a, W0b, W0c, W0d⟩) (bb := bb) (aa := aa) (hbb := hbb) (haa := haa) (hi := by omega) (hj := by omega) (a := (0, 1000000, W0 1 28)) (row := W0 1 27) (hg := rfl) (hb := rfl) (hrw := fun _ => rfl) (hro := fun _ _ => rfl)) ?_
  refine lk_k4 (fun W1 hW1 => ?_)
  refine lk_cast (pc' := 24) (S' := []) rfl rfl rfl ?_
  refine lk_sg (σ' := (lk_ms W1 V T)) rfl ?_
  refine lk_vret dX9_weavesAll_24 rfl ?_
  rw [hQ]
  have hw := lk_wvm_0 hk ha.1 hz hbb haa (W0 1 28) (W0 1 27)
  obtain ⟨w1, w2, w3, w4, w5⟩ := hW1
  refine ⟨rfl, rfl, W1, rfl, lk_fx_sq W0f w1, lk_lq_w w1 ⟨W0a, W0b, W0c, W0d⟩, by rw [w3]; exact congrArg nI hw.1, fun hc => ⟨w4.trans (hw.2.2 hc).1, fun x hx => (w5 x).trans ((hw.2.2 hc).2 x hx)⟩⟩

set_option maxHeartbeats 1000000 in
set_option maxRecDepth 100000 in
theorem tX9_orders_out (l : Launch) (X : lk_G) (d : Nat) (σ : lk_N) (τ : lk_T) (V T : lk_O) (k : Int32) (hk : ¬ (0 ≤ k ∧ k ≤ V 0 0 - 1))  : lk_Mt l X mX9_orders (d + 17) [lk_vr 1 0, lk_vi (k)] (lk_ms σ V T) τ (fun rr σ1 τ1 => rr = some (lk_vi (-1)) ∧ σ1 = (lk_ms σ V T) ∧ τ1 = τ) := by
  refine lk_met (L := [(0, lk_vr 1 0), (1, lk_vi (k))]) (by decide +kernel) (Nat.le_of_ble_eq_true rfl) rfl ?_
  obtain ⟨Q, hQ⟩ : ∃ Q : lk_Q, Q = fun rr σ1 τ1 => rr = some (lk_vi (-1)) ∧ σ1 = (lk_ms σ V T) ∧ τ1 = τ := ⟨_, rfl⟩
  rw [← hQ]
  refine lk_aload_n dX9_orders_0 rfl rfl ?_
  refine lk_iload_n dX9_orders_1 rfl rfl ?_
  refine lk_callV (o := 1) (as := [lk_vi (k)]) (S := []) dX9_orders_2 rfl vX9_isLock rfl lX9_50 rfl rfl (Nat.le_of_ble_eq_true rfl) (tX9_isLock l X (d + 15) (lk_ms σ V T) τ (k := (k)) ) ?_
  refine lk_k3 ?_
  refine lk_cast (pc' := 5) (S' := [lk_vi (if (0 : Int32) ≤ (k) ∧ (k) ≤ (lk_ms σ V T) 1 0 53 - 1 then 1 else 0)]) rfl rfl rfl ?_
  refine lk_if_neB (tgt := 10) dX9_orders_5 (by decide) (fun hh1 => absurd hh1 (by rw [lk_r0 rfl rfl]; exact hk)) (fun hh1 => ?_)
  refine lk_iconst (v := (-1)) dX9_orders_8 (by decide) ?_
  refine lk_iret .int dX9_orders_9 rfl rfl ?_
  rw [hQ]
  exact ⟨by first | rfl | (simp [*]; done) | (simp_all; done) | grind, by first | rfl | (simp [*]; done), rfl⟩

set_option maxHeartbeats 1000000 in
set_option maxRecDepth 100000 in
theorem tX9_orders_ok (l : Launch) (X : lk_G) (d : Nat) (σ : lk_N) (τ : lk_T) (V T : lk_O) (n k : Nat) (ha : lk_all V n) (hk : k < n) (B : lk_O) (nf : Nat) (hn : σ 1 0 114 = nI nf) (hn12 : nf ≤ 12) (hB : lk_bv σ B nf) (hz : ∀ b, b < nf → 0 ≤ (B 1 b).toInt ∧ (B 1 b).toInt ≤ 9) (bb aa : Nat) (hbb : bb = min (lk_qb B nf k).1 6) (haa : aa = min (lk_qa B nf k).1 6) : lk_Mt l X mX9_orders (d + 17) [lk_vr 1 0, lk_vi (nI (k))] (lk_ms σ V T) τ (fun rr σ1 τ1 => rr = some (lk_vi (nI (lk_wvo (B 1) (lk_qb B nf k).2 (lk_qa B nf k).2 k (bb + aa) aa V (2 ^ (bb + aa))).1)) ∧ τ1 = τ ∧ ∃ W : lk_N, σ1 = lk_ms W V T ∧ lk_fx [6, 7, 8, 9, 18, 19, 20, 21, 25, 26, 27, 28] σ W) := by
  refine lk_met (L := [(0, lk_vr 1 0), (1, lk_vi (nI (k)))]) (by decide +kernel) (Nat.le_of_ble_eq_true rfl) rfl ?_
  obtain ⟨Q, hQ⟩ : ∃ Q : lk_Q, Q = fun rr σ1 τ1 => rr = some (lk_vi (nI (lk_wvo (B 1) (lk_qb B nf k).2 (lk_qa B nf k).2 k (bb + aa) aa V (2 ^ (bb + aa))).1)) ∧ τ1 = τ ∧ ∃ W : lk_N, σ1 = lk_ms W V T ∧ lk_fx [6, 7, 8, 9, 18, 19, 20, 21, 25, 26, 27, 28] σ W := ⟨_, rfl⟩
  rw [← hQ]
  have hk6 : k < 6 := Nat.lt_of_lt_of_le hk ha.1.2.2.1
  refine lk_aload_n dX9_orders_0 rfl rfl ?_
  refine lk_iload_n dX9_orders_1 rfl rfl ?_
  refine lk_callV (o := 1) (as := [lk_vi (nI (k))]) (S := []) dX9_orders_2 rfl vX9_isLock rfl lX9_50 rfl rfl (Nat.le_of_ble_eq_true rfl) (tX9_isLock l X (d + 15) (lk_ms σ V T) τ (k := (nI (k))) ) ?_
  refine lk_k3 ?_
  refine lk_cast (pc' := 5) (S' := [lk_vi (if (0 : Int32) ≤ (nI (k)) ∧ (nI (k)) ≤ (lk_ms σ V T) 1 0 53 - 1 then 1 else 0)]) rfl rfl rfl ?_
  refine lk_if_neB (tgt := 10) dX9_orders_5 (by decide) (fun hh1 => ?_) (fun hh1 => absurd hh1 (fun q => q (lk_isl ha.1 hk)))
  refine lk_aload_n dX9_orders_10 rfl rfl ?_
  refine lk_iload_n dX9_orders_11 rfl rfl ?_
  refine lk_callV (o := 1) (as := [lk_vi (nI (k))]) (S := []) dX9_orders_12 rfl vX9_weavesAll rfl lX9_193 rfl rfl (Nat.le_of_ble_eq_true rfl) (tX9_weavesAll l X d σ τ (k := (k)) (V := V) (T := T) (n := n) (ha := ha) (B := B) (nf := nf) (hn := hn) (hn12 := hn12) (hB := hB) (hz := hz) (hk := hk) (bb := bb) (aa := aa) (hbb := hbb) (haa := haa)) ?_
  refine lk_k4 (fun W1 hW1 => ?_)
  refine lk_cast (pc' := 15) (S' := []) rfl rfl rfl ?_
  refine lk_sg (σ' := (lk_ms W1 V T)) rfl ?_
  refine lk_aload_n dX9_orders_15 rfl rfl ?_
  refine lk_getIv (v := (nI ((lk_wvo (B 1) (lk_qb B nf k).2 (lk_qa B nf k).2 k (bb + aa) aa V (2 ^ (bb + aa))).1))) (f := 25) dX9_orders_16 rfl fX9_182 (by decide) (by decide) ((lk_rf (by decide)).trans hW1.2.2.1) ?_
  refine lk_iret .int dX9_orders_19 rfl rfl ?_
  rw [hQ]
  exact ⟨rfl, rfl, W1, rfl, hW1.1⟩

set_option maxHeartbeats 1000000 in
set_option maxRecDepth 100000 in
theorem tX9_best_out (l : Launch) (X : lk_G) (d : Nat) (σ : lk_N) (τ : lk_T) (V T : lk_O) (k : Int32) (hk : ¬ (0 ≤ k ∧ k ≤ V 0 0 - 1)) (i : Int32) : lk_Mt l X mX9_best (d + 17) [lk_vr 1 0, lk_vi (k), lk_vi (i)] (lk_ms σ V T) τ (fun rr σ1 τ1 => rr = some (lk_vi (-2000000)) ∧ σ1 = (lk_ms σ V T) ∧ τ1 = τ) := by
  refine lk_met (L := [(0, lk_vr 1 0), (1, lk_vi (k)), (2, lk_vi (i))]) (by decide +kernel) (Nat.le_of_ble_eq_true rfl) rfl ?_
  obtain ⟨Q, hQ⟩ : ∃ Q : lk_Q, Q = fun rr σ1 τ1 => rr = some (lk_vi (-2000000)) ∧ σ1 = (lk_ms σ V T) ∧ τ1 = τ := ⟨_, rfl⟩
  rw [← hQ]
  refine lk_aload_n dX9_best_0 rfl rfl ?_
  refine lk_iload_n dX9_best_1 rfl rfl ?_
  refine lk_callV (o := 1) (as := [lk_vi (k)]) (S := []) dX9_best_2 rfl vX9_isLock rfl lX9_50 rfl rfl (Nat.le_of_ble_eq_true rfl) (tX9_isLock l X (d + 15) (lk_ms σ V T) τ (k := (k)) ) ?_
  refine lk_k3 ?_
  refine lk_cast (pc' := 5) (S' := [lk_vi (if (0 : Int32) ≤ (k) ∧ (k) ≤ (lk_ms σ V T) 1 0 53 - 1 then 1 else 0)]) rfl rfl rfl ?_
  refine lk_if_eqB (tgt := 13) dX9_best_5 (by decide) (fun hh1 => ?_) (fun hh1 => absurd hh1 (by rw [lk_r0 rfl rfl]; exact hk))
  refine lk_ldc dX9_best_13 kX9_157 ?_
  refine lk_iret .int dX9_best_15 rfl rfl ?_
  rw [hQ]
  exact ⟨by first | rfl | (simp [*]; done) | (simp_all; done) | grind, by first | rfl | (simp [*]; done), rfl⟩

set_option maxHeartbeats 1000000 in
set_option maxRecDepth 100000 in
theorem tX9_best_low (l : Launch) (X : lk_G) (d : Nat) (σ : lk_N) (τ : lk_T) (V T : lk_O) (n k : Nat) (ha : lk_all V n) (hk : k < n) (i : Int32) (h : i < -1) : lk_Mt l X mX9_best (d + 17) [lk_vr 1 0, lk_vi (nI (k)), lk_vi (i)] (lk_ms σ V T) τ (fun rr σ1 τ1 => rr = some (lk_vi (-2000000)) ∧ σ1 = (lk_ms σ V T) ∧ τ1 = τ) := by
  refine lk_met (L := [(0, lk_vr 1 0), (1, lk_vi (nI (k))), (2, lk_vi (i))]) (by decide +kernel) (Nat.le_of_ble_eq_true rfl) rfl ?_
  obtain ⟨Q, hQ⟩ : ∃ Q : lk_Q, Q = fun rr σ1 τ1 => rr = some (lk_vi (-2000000)) ∧ σ1 = (lk_ms σ V T) ∧ τ1 = τ := ⟨_, rfl⟩
  rw [← hQ]
  refine lk_aload_n dX9_best_0 rfl rfl ?_
  refine lk_iload_n dX9_best_1 rfl rfl ?_
  refine lk_callV (o := 1) (as := [lk_vi (nI (k))]) (S := []) dX9_best_2 rfl vX9_isLock rfl lX9_50 rfl rfl (Nat.le_of_ble_eq_true rfl) (tX9_isLock l X (d + 15) (lk_ms σ V T) τ (k := (nI (k))) ) ?_
  refine lk_k3 ?_
  refine lk_cast (pc' := 5) (S' := [lk_vi (if (0 : Int32) ≤ (nI (k)) ∧ (nI (k)) ≤ (lk_ms σ V T) 1 0 53 - 1 then 1 else 0)]) rfl rfl rfl ?_
  refine lk_if_eqB (tgt := 13) dX9_best_5 (by decide) (fun hh1 => absurd hh1 (fun q => q (lk_isl ha.1 hk))) (fun hh1 => ?_)
  refine lk_iload_n dX9_best_8 rfl rfl ?_
  refine lk_iconst (v := (-1)) dX9_best_9 (by decide) ?_
  refine lk_icmp_ge (tgt := 16) dX9_best_10 (by decide) (fun hh2 => absurd hh2 (Int32.not_le.mpr h)) (fun hh2 => ?_)
  refine lk_ldc dX9_best_13 kX9_157 ?_
  refine lk_iret .int dX9_best_15 rfl rfl ?_
  rw [hQ]
  exact ⟨by first | rfl | (simp [*]; done) | (simp_all; done) | grind, by first | rfl | (simp [*]; done), rfl⟩

set_option maxHeartbeats 1000000 in
set_option maxRecDepth 100000 in
theorem tX9_best_m1 (l : Launch) (X : lk_G) (d : Nat) (σ : lk_N) (τ : lk_T) (V T : lk_O) (n k : Nat) (ha : lk_all V n) (hk : k < n) (B : lk_O) (nf : Nat) (hn : σ 1 0 114 = nI nf) (hn12 : nf ≤ 12) (hB : lk_bv σ B nf) (hz : ∀ b, b < nf → 0 ≤ (B 1 b).toInt ∧ (B 1 b).toInt ≤ 9) (bb aa : Nat) (hbb : bb = min (lk_qb B nf k).1 6) (haa : aa = min (lk_qa B nf k).1 6) : lk_Mt l X mX9_best (d + 17) [lk_vr 1 0, lk_vi (nI (k)), lk_vi (-1)] (lk_ms σ V T) τ (fun rr σ1 τ1 => rr = some (lk_vi (if (lk_wvo (B 1) (lk_qb B nf k).2 (lk_qa B nf k).2 k (bb + aa) aa V (2 ^ (bb + aa))).1 = 0 then -2000001 else (lk_wvo (B 1) (lk_qb B nf k).2 (lk_qa B nf k).2 k (bb + aa) aa V (2 ^ (bb + aa))).2.1)) ∧ τ1 = τ ∧ ∃ W : lk_N, σ1 = lk_ms W V T ∧ lk_fx [6, 7, 8, 9, 18, 19, 20, 21, 25, 26, 27, 28] σ W) := by
  refine lk_met (L := [(0, lk_vr 1 0), (1, lk_vi (nI (k))), (2, lk_vi (-1))]) (by decide +kernel) (Nat.le_of_ble_eq_true rfl) rfl ?_
  obtain ⟨Q, hQ⟩ : ∃ Q : lk_Q, Q = fun rr σ1 τ1 => rr = some (lk_vi (if (lk_wvo (B 1) (lk_qb B nf k).2 (lk_qa B nf k).2 k (bb + aa) aa V (2 ^ (bb + aa))).1 = 0 then -2000001 else (lk_wvo (B 1) (lk_qb B nf k).2 (lk_qa B nf k).2 k (bb + aa) aa V (2 ^ (bb + aa))).2.1)) ∧ τ1 = τ ∧ ∃ W : lk_N, σ1 = lk_ms W V T ∧ lk_fx [6, 7, 8, 9, 18, 19, 20, 21, 25, 26, 27, 28] σ W := ⟨_, rfl⟩
  rw [← hQ]
  have hk6 : k < 6 := Nat.lt_of_lt_of_le hk ha.1.2.2.1
  have hbb6 : bb ≤ 6 := by omega
  have haa6 : aa ≤ 6 := by omega
  have hct : (lk_wvo (B 1) (lk_qb B nf k).2 (lk_qa B nf k).2 k (bb + aa) aa V (2 ^ (bb + aa))).1 ≤ 4096 := Nat.le_trans (lk_wvo_le _ _ _ _ _ _ _ _) (lk_p12 (by omega))
  refine lk_aload_n dX9_best_0 rfl rfl ?_
  refine lk_iload_n dX9_best_1 rfl rfl ?_
  refine lk_callV (o := 1) (as := [lk_vi (nI (k))]) (S := []) dX9_best_2 rfl vX9_isLock rfl lX9_50 rfl rfl (Nat.le_of_ble_eq_true rfl) (tX9_isLock l X (d + 15) (lk_ms σ V T) τ (k := (nI (k))) ) ?_
  refine lk_k3 ?_
  refine lk_cast (pc' := 5) (S' := [lk_vi (if (0 : Int32) ≤ (nI (k)) ∧ (nI (k)) ≤ (lk_ms σ V T) 1 0 53 - 1 then 1 else 0)]) rfl rfl rfl ?_
  refine lk_if_eqB (tgt := 13) dX9_best_5 (by decide) (fun hh1 => absurd hh1 (fun q => q (lk_isl ha.1 hk))) (fun hh1 => ?_)
  refine lk_iload_n dX9_best_8 rfl rfl ?_
  refine lk_iconst (v := (-1)) dX9_best_9 (by decide) ?_
  refine lk_icmp_ge (tgt := 16) dX9_best_10 (by decide) (fun hh2 => ?_) (fun hh2 => absurd hh2 (fun q => q (by decide)))
  refine lk_aload_n dX9_best_16 rfl rfl ?_
  refine lk_iload_n dX9_best_17 rfl rfl ?_
  refine lk_callV (o := 1) (as := [lk_vi (nI (k))]) (S := []) dX9_best_18 rfl vX9_weavesAll rfl lX9_193 rfl rfl (Nat.le_of_ble_eq_true rfl) (tX9_weavesAll l X d σ τ (k := (k)) (V := V) (T := T) (n := n) (ha := ha) (B := B) (nf := nf) (hn := hn) (hn12 := hn12) (hB := hB) (hz := hz) (hk := hk) (bb := bb) (aa := aa) (hbb := hbb) (haa := haa)) ?_
  refine lk_k4 (fun W1 hW1 => ?_)
  refine lk_cast (pc' := 21) (S' := []) rfl rfl rfl ?_
  refine lk_sg (σ' := (lk_ms W1 V T)) rfl ?_
  refine lk_bipush (v := 6) dX9_best_21 (by decide) ?_
  refine lk_aload_n dX9_best_23 rfl rfl ?_
  refine lk_getIv (v := (nI ((lk_qb B nf k).1))) (f := 18) dX9_best_24 rfl fX9_168 (by decide) (by decide) ((lk_rf (by decide)).trans hW1.2.1.1) ?_
  refine lk_mmin dX9_best_27 lX9_177 (Nat.le_of_ble_eq_true rfl) ?_
  refine lk_eqtop (y := (nI (bb))) (by rw [hbb]; exact lk_min6m (by have := lk_gat_le B (nI k) 1 nf; have e : (lk_qb B nf k).1 = (lk_gat B (nI k) 1 nf).1 := rfl; omega)) ?_
  refine lk_bipush (v := 6) dX9_best_30 (by decide) ?_
  refine lk_aload_n dX9_best_32 rfl rfl ?_
  refine lk_getIv (v := (nI ((lk_qa B nf k).1))) (f := 19) dX9_best_33 rfl fX9_171 (by decide) (by decide) ((lk_rf (by decide)).trans hW1.2.1.2.1) ?_
  refine lk_mmin dX9_best_36 lX9_177 (Nat.le_of_ble_eq_true rfl) ?_
  refine lk_eqtop (y := (nI (aa))) (by rw [haa]; exact lk_min6m (by have := lk_gat_le B (nI (k + 1)) 0 nf; have e : (lk_qa B nf k).1 = (lk_gat B (nI (k + 1)) 0 nf).1 := rfl; omega)) ?_
  refine lk_iaddN (a := bb) (b := aa) dX9_best_39 ?_
  refine lk_istore_n (L' := [(0, lk_vr 1 0), (1, lk_vi (nI (k))), (2, lk_vi (-1)), (3, lk_vi (nI (bb + aa)))]) dX9_best_40 rfl (by decide +kernel) rfl ?_
  refine lk_aload_n dX9_best_41 rfl rfl ?_
  refine lk_getIv (v := (nI ((lk_wvo (B 1) (lk_qb B nf k).2 (lk_qa B nf k).2 k (bb + aa) aa V (2 ^ (bb + aa))).1))) (f := 25) dX9_best_42 rfl fX9_182 (by decide) (by decide) ((lk_rf (by decide)).trans hW1.2.2.1) ?_
  refine lk_if_eqN (a := (lk_wvo (B 1) (lk_qb B nf k).2 (lk_qa B nf k).2 k (bb + aa) aa V (2 ^ (bb + aa))).1) (tgt := 59) dX9_best_45 (by decide) (by omega) (fun hh3 => ?_) (fun hh3 => ?_)
  ·
    refine lk_ldc dX9_best_59 kX9_158 ?_
    refine lk_iret .int dX9_best_61 rfl rfl ?_
    rw [hQ]
    first | rw [if_pos (by assumption)] | rw [if_neg (by assumption)]
    exact ⟨rfl, rfl, W1, rfl, hW1.1⟩
  ·
    refine lk_iload_n dX9_best_48 rfl rfl ?_
    refine lk_iconst (v := (-1)) dX9_best_49 (by decide) ?_
    refine lk_iload_n dX9_best_50 rfl rfl ?_
    refine lk_iconst (v := 1) dX9_best_51 (by decide) ?_
    refine lk_isub dX9_best_52 ?_
    refine lk_callS (as := [lk_vi (-1), lk_vi (-1), lk_vi ((nI (bb + aa)) - 1)]) (S := []) dX9_best_53 rfl vX9_within rfl lX9_46 (Nat.le_of_ble_eq_true rfl) (tX9_within l X (d + 16) (lk_ms W1 V T) τ (v := (-1)) (a := (-1)) (b := ((nI (bb + aa)) - 1)) ) ?_
    refine lk_k3 ?_
    refine lk_cast (pc' := 56) (S' := [lk_vi (if (-1) ≤ (-1) ∧ (-1) ≤ ((nI (bb + aa)) - 1) then 1 else 0)]) rfl rfl rfl ?_
    refine lk_if_neB (tgt := 62) dX9_best_56 (by decide) (fun hh4 => ?_) (fun hh4 => absurd hh4 (fun q => q ⟨by decide, lk_m1_n (by omega)⟩))
    refine lk_iload_n dX9_best_62 rfl rfl ?_
    refine lk_iconst (v := (-1)) dX9_best_63 (by decide) ?_
    refine lk_icmp_ne (tgt := 74) dX9_best_64 (by decide) (fun hh5 => absurd hh5 (fun q => q rfl)) (fun hh5 => ?_)
    refine lk_aload_n dX9_best_67 rfl rfl ?_
    refine lk_getIv (v := ((lk_wvo (B 1) (lk_qb B nf k).2 (lk_qa B nf k).2 k (bb + aa) aa V (2 ^ (bb + aa))).2.1)) (f := 26) dX9_best_68 rfl fX9_185 (by decide) (by decide) ((lk_rf (by decide)).trans (hW1.2.2.2 (by assumption)).1) ?_
    refine lk_goto (tgt := 80) dX9_best_71 (by decide) ?_
    refine lk_iret .int dX9_best_80 rfl rfl ?_
    rw [hQ]
    first | rw [if_pos (by assumption)] | rw [if_neg (by assumption)]
    exact ⟨rfl, rfl, W1, rfl, hW1.1⟩

set_option maxHeartbeats 1000000 in
set_option maxRecDepth 100000 in
theorem tX9_best_i (l : Launch) (X : lk_G) (d : Nat) (σ : lk_N) (τ : lk_T) (V T : lk_O) (n k : Nat) (ha : lk_all V n) (hk : k < n) (B : lk_O) (nf : Nat) (hn : σ 1 0 114 = nI nf) (hn12 : nf ≤ 12) (hB : lk_bv σ B nf) (hz : ∀ b, b < nf → 0 ≤ (B 1 b).toInt ∧ (B 1 b).toInt ≤ 9) (bb aa : Nat) (hbb : bb = min (lk_qb B nf k).1 6) (haa : aa = min (lk_qa B nf k).1 6) (i : Nat) (h31 : i < 2147483648) : lk_Mt l X mX9_best (d + 17) [lk_vr 1 0, lk_vi (nI (k)), lk_vi (nI (i))] (lk_ms σ V T) τ (fun rr σ1 τ1 => rr = some (lk_vi (if (lk_wvo (B 1) (lk_qb B nf k).2 (lk_qa B nf k).2 k (bb + aa) aa V (2 ^ (bb + aa))).1 = 0 ∨ bb + aa ≤ i then -2000001 else nI (lk_bob (lk_qb B nf k).2 (lk_qa B nf k).2 (bb + aa) (lk_wvo (B 1) (lk_qb B nf k).2 (lk_qa B nf k).2 k (bb + aa) aa V (2 ^ (bb + aa))).2.2 i))) ∧ τ1 = τ ∧ ∃ W : lk_N, σ1 = lk_ms W V T ∧ lk_fx [6, 7, 8, 9, 18, 19, 20, 21, 25, 26, 27, 28] σ W) := by
  refine lk_met (L := [(0, lk_vr 1 0), (1, lk_vi (nI (k))), (2, lk_vi (nI (i)))]) (by decide +kernel) (Nat.le_of_ble_eq_true rfl) rfl ?_
  obtain ⟨Q, hQ⟩ : ∃ Q : lk_Q, Q = fun rr σ1 τ1 => rr = some (lk_vi (if (lk_wvo (B 1) (lk_qb B nf k).2 (lk_qa B nf k).2 k (bb + aa) aa V (2 ^ (bb + aa))).1 = 0 ∨ bb + aa ≤ i then -2000001 else nI (lk_bob (lk_qb B nf k).2 (lk_qa B nf k).2 (bb + aa) (lk_wvo (B 1) (lk_qb B nf k).2 (lk_qa B nf k).2 k (bb + aa) aa V (2 ^ (bb + aa))).2.2 i))) ∧ τ1 = τ ∧ ∃ W : lk_N, σ1 = lk_ms W V T ∧ lk_fx [6, 7, 8, 9, 18, 19, 20, 21, 25, 26, 27, 28] σ W := ⟨_, rfl⟩
  rw [← hQ]
  have hk6 : k < 6 := Nat.lt_of_lt_of_le hk ha.1.2.2.1
  have hbb6 : bb ≤ 6 := by omega
  have haa6 : aa ≤ 6 := by omega
  have hct : (lk_wvo (B 1) (lk_qb B nf k).2 (lk_qa B nf k).2 k (bb + aa) aa V (2 ^ (bb + aa))).1 ≤ 4096 := Nat.le_trans (lk_wvo_le _ _ _ _ _ _ _ _) (lk_p12 (by omega))
  refine lk_aload_n dX9_best_0 rfl rfl ?_
  refine lk_iload_n dX9_best_1 rfl rfl ?_
  refine lk_callV (o := 1) (as := [lk_vi (nI (k))]) (S := []) dX9_best_2 rfl vX9_isLock rfl lX9_50 rfl rfl (Nat.le_of_ble_eq_true rfl) (tX9_isLock l X (d + 15) (lk_ms σ V T) τ (k := (nI (k))) ) ?_
  refine lk_k3 ?_
  refine lk_cast (pc' := 5) (S' := [lk_vi (if (0 : Int32) ≤ (nI (k)) ∧ (nI (k)) ≤ (lk_ms σ V T) 1 0 53 - 1 then 1 else 0)]) rfl rfl rfl ?_
  refine lk_if_eqB (tgt := 13) dX9_best_5 (by decide) (fun hh1 => absurd hh1 (fun q => q (lk_isl ha.1 hk))) (fun hh1 => ?_)
  refine lk_iload_n dX9_best_8 rfl rfl ?_
  refine lk_iconst (v := (-1)) dX9_best_9 (by decide) ?_
  refine lk_icmp_ge (tgt := 16) dX9_best_10 (by decide) (fun hh2 => ?_) (fun hh2 => absurd hh2 (lk_m1_le (by omega)))
  refine lk_aload_n dX9_best_16 rfl rfl ?_
  refine lk_iload_n dX9_best_17 rfl rfl ?_
  refine lk_callV (o := 1) (as := [lk_vi (nI (k))]) (S := []) dX9_best_18 rfl vX9_weavesAll rfl lX9_193 rfl rfl (Nat.le_of_ble_eq_true rfl) (tX9_weavesAll l X d σ τ (k := (k)) (V := V) (T := T) (n := n) (ha := ha) (B := B) (nf := nf) (hn := hn) (hn12 := hn12) (hB := hB) (hz := hz) (hk := hk) (bb := bb) (aa := aa) (hbb := hbb) (haa := haa)) ?_
  refine lk_k4 (fun W1 hW1 => ?_)
  refine lk_cast (pc' := 21) (S' := []) rfl rfl rfl ?_
  refine lk_sg (σ' := (lk_ms W1 V T)) rfl ?_
  refine lk_bipush (v := 6) dX9_best_21 (by decide) ?_
  refine lk_aload_n dX9_best_23 rfl rfl ?_
  refine lk_getIv (v := (nI ((lk_qb B nf k).1))) (f := 18) dX9_best_24 rfl fX9_168 (by decide) (by decide) ((lk_rf (by decide)).trans hW1.2.1.1) ?_
  refine lk_mmin dX9_best_27 lX9_177 (Nat.le_of_ble_eq_true rfl) ?_
  refine lk_eqtop (y := (nI (bb))) (by rw [hbb]; exact lk_min6m (by have := lk_gat_le B (nI k) 1 nf; have e : (lk_qb B nf k).1 = (lk_gat B (nI k) 1 nf).1 := rfl; omega)) ?_
  refine lk_bipush (v := 6) dX9_best_30 (by decide) ?_
  refine lk_aload_n dX9_best_32 rfl rfl ?_
  refine lk_getIv (v := (nI ((lk_qa B nf k).1))) (f := 19) dX9_best_33 rfl fX9_171 (by decide) (by decide) ((lk_rf (by decide)).trans hW1.2.1.2.1) ?_
  refine lk_mmin dX9_best_36 lX9_177 (Nat.le_of_ble_eq_true rfl) ?_
  refine lk_eqtop (y := (nI (aa))) (by rw [haa]; exact lk_min6m (by have := lk_gat_le B (nI (k + 1)) 0 nf; have e : (lk_qa B nf k).1 = (lk_gat B (nI (k + 1)) 0 nf).1 := rfl; omega)) ?_
  refine lk_iaddN (a := bb) (b := aa) dX9_best_39 ?_
  refine lk_istore_n (L' := [(0, lk_vr 1 0), (1, lk_vi (nI (k))), (2, lk_vi (nI (i))), (3, lk_vi (nI (bb + aa)))]) dX9_best_40 rfl (by decide +kernel) rfl ?_
  refine lk_aload_n dX9_best_41 rfl rfl ?_
  refine lk_getIv (v := (nI ((lk_wvo (B 1) (lk_qb B nf k).2 (lk_qa B nf k).2 k (bb + aa) aa V (2 ^ (bb + aa))).1))) (f := 25) dX9_best_42 rfl fX9_182 (by decide) (by decide) ((lk_rf (by decide)).trans hW1.2.2.1) ?_
  refine lk_if_eqN (a := (lk_wvo (B 1) (lk_qb B nf k).2 (lk_qa B nf k).2 k (bb + aa) aa V (2 ^ (bb + aa))).1) (tgt := 59) dX9_best_45 (by decide) (by omega) (fun hh3 => ?_) (fun hh3 => ?_)
  ·
    refine lk_ldc dX9_best_59 kX9_158 ?_
    refine lk_iret .int dX9_best_61 rfl rfl ?_
    rw [hQ]
    rw [if_pos (by first | exact Or.inl (by assumption) | exact Or.inr (lk_wi_n (by omega) h31 (by assumption)))]
    exact ⟨rfl, rfl, W1, rfl, hW1.1⟩
  ·
    refine lk_iload_n dX9_best_48 rfl rfl ?_
    refine lk_iconst (v := (-1)) dX9_best_49 (by decide) ?_
    refine lk_iload_n dX9_best_50 rfl rfl ?_
    refine lk_iconst (v := 1) dX9_best_51 (by decide) ?_
    refine lk_isub dX9_best_52 ?_
    refine lk_callS (as := [lk_vi (nI (i)), lk_vi (-1), lk_vi ((nI (bb + aa)) - 1)]) (S := []) dX9_best_53 rfl vX9_within rfl lX9_46 (Nat.le_of_ble_eq_true rfl) (tX9_within l X (d + 16) (lk_ms W1 V T) τ (v := (nI (i))) (a := (-1)) (b := ((nI (bb + aa)) - 1)) ) ?_
    refine lk_k3 ?_
    refine lk_cast (pc' := 56) (S' := [lk_vi (if (-1) ≤ (nI (i)) ∧ (nI (i)) ≤ ((nI (bb + aa)) - 1) then 1 else 0)]) rfl rfl rfl ?_
    refine lk_if_neB (tgt := 62) dX9_best_56 (by decide) (fun hh4 => ?_) (fun hh4 => ?_)
    ·
      have hiN : i < bb + aa := lk_wi_i (by omega) h31 (by assumption)
      refine lk_iload_n dX9_best_62 rfl rfl ?_
      refine lk_iconst (v := (-1)) dX9_best_63 (by decide) ?_
      refine lk_icmp_ne (tgt := 74) dX9_best_64 (by decide) (fun hh5 => ?_) (fun hh5 => absurd hh5 (lk_nim1 (by omega)))
      refine lk_aload_n dX9_best_74 rfl rfl ?_
      refine lk_getR (f := 28) dX9_best_75 rfl fX9_39 (by decide) (by decide) ?_
      refine lk_iload_n dX9_best_78 rfl rfl ?_
      refine lk_ialdN (f := 28) (i := i) dX9_best_79 rfl (by decide) rfl (by omega) (by decide) ?_
      refine lk_eqtop (y := (nI (lk_bob (lk_qb B nf k).2 (lk_qa B nf k).2 (bb + aa) (lk_wvo (B 1) (lk_qb B nf k).2 (lk_qa B nf k).2 k (bb + aa) aa V (2 ^ (bb + aa))).2.2 i))) ((lk_rf (by decide)).trans ((hW1.2.2.2 (by assumption)).2 i hiN)) ?_
      refine lk_iret .int dX9_best_80 rfl rfl ?_
      rw [hQ]
      rw [if_neg (by rintro (z | z) <;> first | contradiction | omega)]
      exact ⟨rfl, rfl, W1, rfl, hW1.1⟩
    ·
      refine lk_ldc dX9_best_59 kX9_158 ?_
      refine lk_iret .int dX9_best_61 rfl rfl ?_
      rw [hQ]
      rw [if_pos (by first | exact Or.inl (by assumption) | exact Or.inr (lk_wi_n (by omega) h31 (by assumption)))]
      exact ⟨rfl, rfl, W1, rfl, hW1.1⟩
