/-! WHAT A CANAL DOES: what every state of it keeps, passages behind one another, days -/
def lk_cok (V : lk_O) (n : Nat) : Prop := V 0 0 = nI n ∧ 1 ≤ n ∧ n ≤ 6 ∧ (∀ k, k < 6 → ¬ V 3 k + 2 = 0) ∧ ∀ k, k < 6 → V 5 k = 0 ∨ V 5 k = 1
theorem lk_near_3 {V V' : lk_O} {k : Nat} (h : lk_near V V' k) (i : Nat) : V' 3 i = V 3 i := h 3 i (by simp) (by simp) (by simp)
theorem lk_stp {σ σa σb : lk_N} {c : Nat} {V : lk_O} (h1 : σa = lk_so σ c (σa c)) (h2 : σb = lk_so σa c V) : σb = lk_so σ c (σb c) := by
  have h3 : σb c = V := by rw [h2, lk_so_eq]
  rw [h3, h2, h1, lk_so_so]
theorem lk_stp_V {σa σb : lk_N} {c : Nat} {V : lk_O} (h2 : σb = lk_so σa c V) : V = σb c := by rw [h2, lk_so_eq]
/-- a barred passage: what was changed is put back, the cause is told -/
theorem lk_pas_back {σ σa σx : lk_N} {c k : Nat} {q : Int32 × Nat × Int32} (ha : σa = lk_so σ c (σa c)) (hn : lk_near (σ c) (σa c) k) (hx : σx = lk_so σa (c + 2) (lk_kau (σa (c + 2)) (nI k) q)) :
    lk_up (lk_up (lk_up (lk_up σx c 6 k (σ c 6 k)) c 6 (k + 1) (σ c 6 (k + 1))) c 4 k (σ c 4 k)) c 5 k (σ c 5 k) = lk_so σ (c + 2) (lk_kau (σ (c + 2)) (nI k) q) := by
  have h1 : σa (c + 2) = σ (c + 2) := by rw [ha]; exact lk_so_ne (by omega)
  have h2 : σx c = σa c := by rw [hx]; exact lk_so_ne (by omega)
  have h3 : σx = lk_so (lk_so σ (c + 2) (lk_kau (σ (c + 2)) (nI k) q)) c (σa c) := by
    rw [hx, h1]
    conv => lhs; rw [ha]
    exact lk_so_comm (by omega)
  simp only [lk_up_so, lk_so_so, lk_so_eq]
  rw [h2, lk_near_back hn, h3, lk_so_so]
  have h4 : (lk_so σ (c + 2) (lk_kau (σ (c + 2)) (nI k) q)) c = σ c := lk_so_ne (by omega)
  conv => lhs; rw [← h4]
  exact lk_so_self _ _
theorem lk_tin {s : Int32} (h1 : ¬ s < -9) (h2 : ¬ 108 < s) : vp_in (s - -9) 118 := by
  have a1 : (-9 : Int) ≤ s.toInt := by
    have := Int32.le_iff_toInt_le.mp (Int32.not_lt.mp h1); simpa using this
  have a2 : s.toInt ≤ 108 := by
    have := Int32.le_iff_toInt_le.mp (Int32.not_lt.mp h2); simpa using this
  have e : (s - -9).toInt = s.toInt + 9 := by
    rw [Int32.toInt_sub, show (-9 : Int32).toInt = -9 from rfl, Int.bmod_eq_of_le] <;> omega
  intro h
  rcases h with h | h
  · have := Int32.lt_iff_toInt_lt.mp h
    rw [e] at this
    have z : (0 : Int32).toInt = 0 := rfl
    omega
  · have : (s - -9).toNatClampNeg = (s.toInt + 9).toNat := by show (s - -9).toInt.toNat = _; rw [e]
    omega
abbrev lk_J : Type := Option (Nat × Int32 × Nat × Int32) × lk_O × lk_O
/-- through locks one after the other, till one is barred: how many, the cause (the lock first), the numbers and the tally behind it -/
def lk_trv (up : Bool) (z : Int32) : List Nat → lk_O → lk_O → Nat × lk_J
  | [], V, T => (0, none, V, T)
  | k :: ks, V, T => match lk_pas V k up z with
    | .inl V' => ((lk_trv up z ks V' (lk_tad T (V 6 (k + 1) - V' 6 (k + 1)))).1 + 1, (lk_trv up z ks V' (lk_tad T (V 6 (k + 1) - V' 6 (k + 1)))).2)
    | .inr q => (0, some (k, q), V, T)
/-- the locks from reach a on -/
def lk_lks (up : Bool) (a n : Nat) : List Nat := match up with
  | true => List.range' a (n - a)
  | false => (List.range a).reverse
/-- what it leaves in a canal c: if it was barred, the flag and the cause -/
def lk_yS (σ : lk_N) (c : Nat) (j : lk_J) : lk_N := match j.1 with
  | none => lk_so (lk_so σ c j.2.1) (c + 1) j.2.2
  | some (k, q) => lk_so (lk_so (lk_so σ c (lk_ou j.2.1 12 0 1)) (c + 1) j.2.2) (c + 2) (lk_kau (σ (c + 2)) (nI k) q)
/-- each reach loses, the summit gains -/
def lk_lag (V : lk_O) (n : Nat) : lk_O :=
  lk_ou (fun f i => if f = 6 ∧ i ≤ n then (if V 7 i < V 6 i - V 9 i then V 6 i - V 9 i else V 7 i) else V f i) 6 n
    (if (if V 7 n < V 6 n - V 9 n then V 6 n - V 9 n else V 7 n) + V 1 0 < V 8 n then (if V 7 n < V 6 n - V 9 n then V 6 n - V 9 n else V 7 n) + V 1 0 else V 8 n)
def lk_way (u d a b : Nat) : Bool := decide (a < u) && (decide (a ≤ b) || decide (d ≤ b))
/-- the boats of a day that are left, m of them, a and b gone -/
def lk_dyl (n u d : Nat) : Nat → Nat → Nat → lk_O → lk_O → Nat × lk_J
  | 0, _, _, V, T => (0, none, V, T)
  | m + 1, a, b, V, T => match lk_trv (lk_way u d a b) 0 (lk_lks (lk_way u d a b) (if lk_way u d a b = true then 0 else n) n) V T with
    | (i, none, V', T') => ((lk_dyl n u d m (if lk_way u d a b = true then a + 1 else a) (if lk_way u d a b = true then b else b + 1) V' T').1 + i, (lk_dyl n u d m (if lk_way u d a b = true then a + 1 else a) (if lk_way u d a b = true then b else b + 1) V' T').2)
    | r => r
def lk_day (V T : lk_O) (n u d : Nat) : Nat × lk_J := lk_dyl n u d (u + d) 0 0 (lk_ou (lk_lag V n) 12 0 0) T
theorem lk_fil_cok {V V' : lk_O} {k n : Nat} (h : lk_near V V' k) (h5 : V' 5 k = 0 ∨ V' 5 k = 1) (hc : lk_cok V n) : lk_cok V' n := by
  refine ⟨by rw [h 0 0 (by simp) (by simp) (by simp)]; exact hc.1, hc.2.1, hc.2.2.1, fun i hi => by rw [lk_near_3 h]; exact hc.2.2.2.1 i hi, fun i hi => ?_⟩
  by_cases e : i = k
  · subst e; exact h5
  · rw [h 5 i (by simp) (by simp) (fun z => e z.2)]; exact hc.2.2.2.2 i hi
theorem lk_fil_5 {V V' : lk_O} {k : Nat} (h : lk_fil V k = .inl V') : V' 5 k = 1 := by
  unfold lk_fil at h
  split at h
  · cases h; exact lk_ou_eq _ _ _ _
  · cases h
theorem lk_emp_5 {V V' : lk_O} {k : Nat} (h : lk_emp V k = .inl V') : V' 5 k = 0 := by
  unfold lk_emp at h
  split at h
  · cases h; exact lk_ou_eq _ _ _ _
  · cases h
theorem lk_swp_5 {V V' : lk_O} {k i : Nat} {z : Int32} (h : lk_swp V k z = .inl V') : V' 5 i = V 5 i := by
  unfold lk_swp at h
  split at h
  · split at h
    · cases h; simp [lk_ou]
    · cases h
  · cases h
theorem lk_pas_near {V V' : lk_O} {k : Nat} {up : Bool} {z : Int32} (h : lk_pas V k up z = .inl V') : lk_near V V' k ∧ (V' 5 k = 0 ∨ V' 5 k = 1) := by
  cases up with
  | true =>
    simp only [lk_pas] at h
    cases h1 : (if V 5 k = 0 then (.inl V : lk_P) else lk_emp V k) with
    | inr q => rw [h1] at h; simp [lk_sb] at h
    | inl V1 =>
      rw [h1] at h
      have n1 : lk_near V V1 k := by
        split at h1
        · cases h1; exact lk_near_rf _ _
        · exact lk_emp_near h1
      simp only [lk_sb] at h
      cases h2 : lk_fil V1 k with
      | inr q => rw [h2] at h; simp at h
      | inl V2 =>
        rw [h2] at h
        have h3 : lk_swp V2 k z = .inl V' := h
        exact ⟨lk_near_tr n1 (lk_near_tr (lk_fil_near h2) (lk_swp_near h3)), Or.inr (by rw [lk_swp_5 h3]; exact lk_fil_5 h2)⟩
  | false =>
    simp only [lk_pas] at h
    cases h1 : (if V 5 k = 0 then lk_fil V k else (.inl V : lk_P)) with
    | inr q => rw [h1] at h; simp [lk_sb] at h
    | inl V1 =>
      rw [h1] at h
      have n1 : lk_near V V1 k := by
        split at h1
        · exact lk_fil_near h1
        · cases h1; exact lk_near_rf _ _
      simp only [lk_sb] at h
      cases h2 : lk_emp V1 k with
      | inr q => rw [h2] at h; simp at h
      | inl V2 =>
        rw [h2] at h
        have h3 : lk_swp V2 k (0 - z) = .inl V' := h
        exact ⟨lk_near_tr n1 (lk_near_tr (lk_emp_near h2) (lk_swp_near h3)), Or.inl (by rw [lk_swp_5 h3]; exact lk_emp_5 h2)⟩
theorem lk_pas_cok {V V' : lk_O} {k n : Nat} {up : Bool} {z : Int32} (h : lk_pas V k up z = .inl V') (hc : lk_cok V n) : lk_cok V' n := lk_fil_cok (lk_pas_near h).1 (lk_pas_near h).2 hc
