/-! WHAT A CANAL DOES: what every state of it keeps, passages behind one another, days -/
def lk_lok (V : lk_O) (k : Nat) : Prop := 1 ≤ (V 2 k).toInt ∧ (V 2 k).toInt ≤ 99 ∧ 0 ≤ (V 3 k).toInt ∧ (V 3 k).toInt ≤ 3 ∧ 0 ≤ (V 4 k).toInt ∧ (V 4 k).toInt ≤ (V 2 k).toInt ∧ (V 5 k = 0 ∨ V 5 k = 1)
def lk_cok (V : lk_O) (n : Nat) : Prop := V 0 0 = nI n ∧ 1 ≤ n ∧ n ≤ 6 ∧ ∀ k, k < 6 → lk_lok V k
/-- small numbers: sums and the like as integers' -/
theorem lk_ta {a b : Int32} {x y : Int} (ha : a.toInt = x) (hb : b.toInt = y) (h1 : -1000000000 ≤ x) (h2 : x ≤ 1000000000) (h3 : -1000000000 ≤ y) (h4 : y ≤ 1000000000) : (a + b).toInt = x + y := by
  rw [Int32.toInt_add, ha, hb, Int.bmod_eq_of_le] <;> omega
theorem lk_ts {a b : Int32} {x y : Int} (ha : a.toInt = x) (hb : b.toInt = y) (h1 : -1000000000 ≤ x) (h2 : x ≤ 1000000000) (h3 : -1000000000 ≤ y) (h4 : y ≤ 1000000000) : (a - b).toInt = x - y := by
  rw [Int32.toInt_sub, ha, hb, Int.bmod_eq_of_le] <;> omega
theorem lk_tm {a b : Int32} {x y : Int} (ha : a.toInt = x) (hb : b.toInt = y) (h1 : -1000000000 ≤ x * y) (h2 : x * y ≤ 1000000000) : (a * b).toInt = x * y := by
  rw [Int32.toInt_mul, ha, hb, Int.bmod_eq_of_le] <;> omega
theorem lk_lok_p {V : lk_O} {k : Nat} (h : lk_lok V k) : ¬ V 3 k + 2 = 0 := by
  intro e
  have h1 := lk_ta (a := V 3 k) (b := 2) rfl rfl (by have := h.2.2.1; omega) (by have := h.2.2.2.1; omega) (by decide) (by decide)
  rw [e] at h1
  have z0 : (0 : Int32).toInt = 0 := rfl
  have z2 : (2 : Int32).toInt = 2 := rfl
  have := h.2.2.1
  omega
theorem lk_lok_s {V : lk_O} {k : Nat} (h : lk_lok V k) : 0 ≤ (lk_shr V k).toInt ∧ (lk_shr V k).toInt ≤ (V 2 k).toInt := by
  obtain ⟨h1, h2, h3, h4, h5, h6, h7⟩ := h
  have hp : (V 3 k).toInt = 0 ∨ (V 3 k).toInt = 1 ∨ (V 3 k).toInt = 2 ∨ (V 3 k).toInt = 3 := by omega
  have z2 : (2 : Int32).toInt = 2 := rfl
  have e2 := lk_ta (a := V 3 k) (b := 2) rfl z2 (by omega) (by omega) (by decide) (by decide)
  have e1 : (V 2 k * V 3 k).toInt = (V 2 k).toInt * (V 3 k).toInt := by
    rcases hp with q | q | q | q <;> (refine lk_tm rfl rfl ?_ ?_ <;> rw [q] <;> omega)
  have e3 : (lk_shr V k).toInt = ((V 2 k).toInt * (V 3 k).toInt).tdiv ((V 3 k).toInt + 2) := by
    unfold lk_shr
    rw [Int32.toInt_div, e1, e2]
    rcases hp with q | q | q | q <;> rw [q] <;> (rw [Int.tdiv_eq_ediv_of_nonneg (by omega)]; rw [Int.bmod_eq_of_le] <;> omega)
  rw [e3]
  rcases hp with q | q | q | q <;> rw [q] <;> rw [Int.tdiv_eq_ediv_of_nonneg (by omega)] <;> omega
theorem lk_near_3 {V V' : lk_O} {k : Nat} (h : lk_near V V' k) (i : Nat) : V' 3 i = V 3 i := h 3 i (by simp) (by simp) (by simp)
theorem lk_stp {σ σa σb : lk_N} {c : Nat} {V : lk_O} (h1 : σa = lk_so σ c (σa c)) (h2 : σb = lk_so σa c V) : σb = lk_so σ c (σb c) := by
  have h3 : σb c = V := by rw [h2, lk_so_eq]
  rw [h3, h2, h1, lk_so_so]
theorem lk_stp_V {σa σb : lk_N} {c : Nat} {V : lk_O} (h2 : σb = lk_so σa c V) : V = σb c := by rw [h2, lk_so_eq]
/-- a barred passage: what was changed is put back, the cause is told -/
theorem lk_pas_back {σ σa σx : lk_N} {c k : Nat} {q : Int32 × Nat × Int32} (ha : σa = lk_so σ c (σa c)) (hn : lk_near (σ c) (σa c) k) (hx : σx = lk_so σa (c + 2) (lk_kau (σa (c + 2)) (nI k) q)) :
    lk_up (lk_up (lk_up (lk_up σx c 6 k (σ c 6 k)) c 6 (k + 1) (σ c 6 (k + 1))) c 4 k (σ c 4 k)) c 5 k (σ c 5 k) = lk_so σ (c + 2) (lk_kau (σ (c + 2)) (nI k) q) := by
  have h1 : σa (c + 2) = σ (c + 2) := by rw [ha]; exact lk_so_ne (by omega)
  have h2 : σx c = σa c := by rw [hx]; exact lk_so_ne (by omega)
  have h3 : σx = lk_so (lk_so σ (c + 2) (lk_kau (σ (c + 2)) (nI k) q)) c (σa c) := by
    rw [hx, h1]
    conv => lhs; rw [ha]
    exact lk_so_comm (by omega)
  simp only [lk_up_so, lk_so_so, lk_so_eq]
  rw [h2, lk_near_back hn, h3, lk_so_so]
  have h4 : (lk_so σ (c + 2) (lk_kau (σ (c + 2)) (nI k) q)) c = σ c := lk_so_ne (by omega)
  conv => lhs; rw [← h4]
  exact lk_so_self _ _
theorem lk_tin {s : Int32} (h1 : ¬ s < -9) (h2 : ¬ 108 < s) : vp_in (s - -9) 118 := by
  have a1 : (-9 : Int) ≤ s.toInt := by
    have := Int32.le_iff_toInt_le.mp (Int32.not_lt.mp h1); simpa using this
  have a2 : s.toInt ≤ 108 := by
    have := Int32.le_iff_toInt_le.mp (Int32.not_lt.mp h2); simpa using this
  have e : (s - -9).toInt = s.toInt + 9 := by
    rw [Int32.toInt_sub, show (-9 : Int32).toInt = -9 from rfl, Int.bmod_eq_of_le] <;> omega
  intro h
  rcases h with h | h
  · have := Int32.lt_iff_toInt_lt.mp h
    rw [e] at this
    have z : (0 : Int32).toInt = 0 := rfl
    omega
  · have : (s - -9).toNatClampNeg = (s.toInt + 9).toNat := by show (s - -9).toInt.toNat = _; rw [e]
    omega
abbrev lk_J : Type := Option (Nat × Int32 × Nat × Int32) × lk_O × lk_O
/-- through locks one after the other, till one is barred: how many, the cause (the lock first), the numbers and the tally behind it -/
def lk_trv (up : Bool) (z : Int32) : List Nat → lk_O → lk_O → Nat × lk_J
  | [], V, T => (0, none, V, T)
  | k :: ks, V, T => match lk_pas V k up z with
    | .inl V' => ((lk_trv up z ks V' (lk_tad T (V 6 (k + 1) - V' 6 (k + 1)))).1 + 1, (lk_trv up z ks V' (lk_tad T (V 6 (k + 1) - V' 6 (k + 1)))).2)
    | .inr q => (0, some (k, q), V, T)
/-- the locks from reach a on -/
def lk_lks (up : Bool) (a n : Nat) : List Nat := match up with
  | true => List.range' a (n - a)
  | false => (List.range a).reverse
/-- what it leaves in a canal c: if it was barred, the flag and the cause -/
def lk_yS (σ : lk_N) (c : Nat) (j : lk_J) : lk_N := match j.1 with
  | none => lk_so (lk_so σ c j.2.1) (c + 1) j.2.2
  | some (k, q) => lk_so (lk_so (lk_so σ c (lk_ou j.2.1 12 0 1)) (c + 1) j.2.2) (c + 2) (lk_kau (σ (c + 2)) (nI k) q)
/-- each reach loses, the summit gains -/
def lk_lag (V : lk_O) (n : Nat) : lk_O :=
  lk_ou (fun f i => if f = 6 ∧ i ≤ n then (if V 7 i < V 6 i - V 9 i then V 6 i - V 9 i else V 7 i) else V f i) 6 n
    (if (if V 7 n < V 6 n - V 9 n then V 6 n - V 9 n else V 7 n) + V 1 0 < V 8 n then (if V 7 n < V 6 n - V 9 n then V 6 n - V 9 n else V 7 n) + V 1 0 else V 8 n)
def lk_way (u d a b : Nat) : Bool := decide (a < u) && (decide (a ≤ b) || decide (d ≤ b))
/-- the boats of a day that are left, m of them, a and b gone -/
def lk_dyl (n u d : Nat) : Nat → Nat → Nat → lk_O → lk_O → Nat × lk_J
  | 0, _, _, V, T => (0, none, V, T)
  | m + 1, a, b, V, T => match lk_trv (lk_way u d a b) 0 (lk_lks (lk_way u d a b) (if lk_way u d a b = true then 0 else n) n) V T with
    | (i, none, V', T') => ((lk_dyl n u d m (if lk_way u d a b = true then a + 1 else a) (if lk_way u d a b = true then b else b + 1) V' T').1 + i, (lk_dyl n u d m (if lk_way u d a b = true then a + 1 else a) (if lk_way u d a b = true then b else b + 1) V' T').2)
    | r => r
def lk_day (V T : lk_O) (n u d : Nat) : Nat × lk_J := lk_dyl n u d (u + d) 0 0 (lk_ou (lk_lag V n) 12 0 0) T
theorem lk_fil_lok {V V' : lk_O} {k : Nat} (h : lk_fil V k = .inl V') (hl : lk_lok V k) : lk_lok V' k ∧ V' 6 (k + 1) = V 6 (k + 1) - (V 2 k - V 4 k) := by
  unfold lk_fil at h
  split at h
  · cases h
    obtain ⟨h1, h2, h3, h4, h5, h6, h7⟩ := hl
    have z0 : (0 : Int32).toInt = 0 := rfl
    refine ⟨?_, by simp [lk_ou]⟩
    simp only [lk_lok, lk_ou]
    simp
    omega
  · cases h
theorem lk_emp_lok {V V' : lk_O} {k : Nat} (h : lk_emp V k = .inl V') (hl : lk_lok V k) : lk_lok V' k ∧ V' 6 (k + 1) = V 6 (k + 1) ∧ V' 2 k = V 2 k ∧ V' 4 k = lk_shr V k := by
  unfold lk_emp at h
  split at h
  · cases h
    have hs := lk_lok_s hl
    obtain ⟨h1, h2, h3, h4, h5, h6, h7⟩ := hl
    refine ⟨?_, by simp [lk_ou], by simp [lk_ou], by simp [lk_ou]⟩
    simp only [lk_lok, lk_ou]
    simp
    omega
  · cases h
theorem lk_swp_lok {V V' : lk_O} {k : Nat} {z : Int32} (h : lk_swp V k z = .inl V') (hl : lk_lok V k) : lk_lok V' k ∧ V' 6 (k + 1) = V 6 (k + 1) - z := by
  unfold lk_swp at h
  split at h
  · split at h
    · cases h
      obtain ⟨h1, h2, h3, h4, h5, h6, h7⟩ := hl
      refine ⟨?_, by simp [lk_ou]⟩
      simp only [lk_lok, lk_ou]
      simp
      exact ⟨h1, h2, h3, h4, h5, h6, h7⟩
    · cases h
  · cases h
/-- a good passage: what it keeps, and the range of what is SPENT -/
theorem lk_pas_ok {V V' : lk_O} {k : Nat} {up : Bool} {z : Int32} (h : lk_pas V k up z = .inl V') (hl : lk_lok V k) (hz : 0 ≤ z.toInt) (hz9 : z.toInt ≤ 9) :
    lk_near V V' k ∧ lk_lok V' k ∧ -9 ≤ (V 6 (k + 1) - V' 6 (k + 1)).toInt ∧ (V 6 (k + 1) - V' 6 (k + 1)).toInt ≤ 108 := by
  cases up with
  | true =>
    simp only [lk_pas] at h
    cases h1 : (if V 5 k = 0 then (.inl V : lk_P) else lk_emp V k) with
    | inr q => rw [h1] at h; simp [lk_sb] at h
    | inl V1 =>
      rw [h1] at h
      have n1 : lk_near V V1 k ∧ lk_lok V1 k ∧ V1 6 (k + 1) = V 6 (k + 1) := by
        split at h1
        · cases h1; exact ⟨lk_near_rf _ _, hl, rfl⟩
        · have := lk_emp_lok h1 hl; exact ⟨lk_emp_near h1, this.1, this.2.1⟩
      simp only [lk_sb] at h
      cases h2 : lk_fil V1 k with
      | inr q => rw [h2] at h; simp at h
      | inl V2 =>
        rw [h2] at h
        have h3 : lk_swp V2 k z = .inl V' := h
        have a2 := lk_fil_lok h2 n1.2.1
        have a3 := lk_swp_lok h3 a2.1
        have e : V 6 (k + 1) - V' 6 (k + 1) = (V1 2 k - V1 4 k) + z := by rw [a3.2, a2.2, n1.2.2]; grind
        obtain ⟨b1, b2, b3, b4, b5, b6, b7⟩ := n1.2.1
        have e1 := lk_ts (a := V1 2 k) (b := V1 4 k) rfl rfl (by omega) (by omega) (by omega) (by omega)
        have e2 := lk_ta (a := V1 2 k - V1 4 k) (b := z) e1 rfl (by omega) (by omega) (by omega) (by omega)
        refine ⟨lk_near_tr n1.1 (lk_near_tr (lk_fil_near h2) (lk_swp_near h3)), a3.1, ?_, ?_⟩ <;> rw [e, e2] <;> omega
  | false =>
    simp only [lk_pas] at h
    cases h1 : (if V 5 k = 0 then lk_fil V k else (.inl V : lk_P)) with
    | inr q => rw [h1] at h; simp [lk_sb] at h
    | inl V1 =>
      rw [h1] at h
      have n1 : lk_near V V1 k ∧ lk_lok V1 k ∧ ∃ x : Int32, 0 ≤ x.toInt ∧ x.toInt ≤ 99 ∧ V1 6 (k + 1) = V 6 (k + 1) - x := by
        split at h1
        · have := lk_fil_lok h1 hl
          obtain ⟨b1, b2, b3, b4, b5, b6, b7⟩ := hl
          have e1 := lk_ts (a := V 2 k) (b := V 4 k) rfl rfl (by omega) (by omega) (by omega) (by omega)
          exact ⟨lk_fil_near h1, this.1, V 2 k - V 4 k, by omega, by omega, this.2⟩
        · cases h1; exact ⟨lk_near_rf _ _, hl, 0, by decide, by decide, by simp⟩
      simp only [lk_sb] at h
      cases h2 : lk_emp V1 k with
      | inr q => rw [h2] at h; simp at h
      | inl V2 =>
        rw [h2] at h
        have h3 : lk_swp V2 k (0 - z) = .inl V' := h
        have a2 := lk_emp_lok h2 n1.2.1
        have a3 := lk_swp_lok h3 a2.1
        obtain ⟨x, x0, x9, ex⟩ := n1.2.2
        have e : V 6 (k + 1) - V' 6 (k + 1) = x - z := by rw [a3.2, a2.2.1, ex]; grind
        have e1 := lk_ts (a := x) (b := z) rfl rfl (by omega) (by omega) (by omega) (by omega)
        refine ⟨lk_near_tr n1.1 (lk_near_tr (lk_emp_near h2) (lk_swp_near h3)), a3.1, ?_, ?_⟩ <;> rw [e, e1] <;> omega
theorem lk_near_cok {V V' : lk_O} {k n : Nat} (h : lk_near V V' k) (h5 : lk_lok V' k) (hc : lk_cok V n) : lk_cok V' n := by
  refine ⟨by rw [h 0 0 (by simp) (by simp) (by simp)]; exact hc.1, hc.2.1, hc.2.2.1, fun i hi => ?_⟩
  by_cases e : i = k
  · subst e; exact h5
  · have := hc.2.2.2 i hi
    unfold lk_lok at this ⊢
    rw [h 2 i (by simp) (by simp) (by simp), h 3 i (by simp) (by simp) (by simp), h 4 i (by simp) (fun z => e z.2) (by simp), h 5 i (by simp) (by simp) (fun z => e z.2)]
    exact this
theorem lk_pas_cok {V V' : lk_O} {k n : Nat} {up : Bool} {z : Int32} (h : lk_pas V k up z = .inl V') (hk : k < n) (hc : lk_cok V n) (hz : 0 ≤ z.toInt) (hz9 : z.toInt ≤ 9) : lk_cok V' n :=
  have hq := lk_pas_ok h (hc.2.2.2 k (Nat.lt_of_lt_of_le hk hc.2.2.1)) hz hz9
  lk_near_cok hq.1 hq.2.1 hc
theorem lk_sp_ne {s : Int32} (h : -9 ≤ s.toInt) : ¬ s = -2000002 := by
  intro e; rw [e] at h; revert h; decide
