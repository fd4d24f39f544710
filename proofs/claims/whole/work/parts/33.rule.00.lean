/-- boat a is ahead of boat b: by rank, then by name -/
def lk_ahd (R : Nat → Int32) (a b : Nat) : Bool := decide (R b < R a) || (decide (R a = R b) && decide (a < b))
theorem lk_ahd_t {R : Nat → Int32} {a b : Nat} (h : R b < R a ∨ (R a = R b ∧ a < b)) : lk_ahd R a b = true := by
  simp only [lk_ahd, Bool.or_eq_true, Bool.and_eq_true, decide_eq_true_eq]; exact h
theorem lk_ahd_f {R : Nat → Int32} {a b : Nat} (h : ¬ (R b < R a ∨ (R a = R b ∧ a < b))) : ¬ lk_ahd R a b = true := by
  simp only [lk_ahd, Bool.or_eq_true, Bool.and_eq_true, decide_eq_true_eq]; exact h
/-- whether the next one comes from below, by a rule, i and j being gone -/
def lk_frb (R : Nat → Int32) (qb qa : Nat → Nat) (nb na i j : Nat) (fu : Int32) (ru : Nat) : Bool :=
  if nb ≤ i ∨ na ≤ j then decide (i < nb) else match ru with
    | 0 => decide (i ≤ j)
    | 1 => lk_ahd R (qb i) (qa j)
    | 2 => true
    | _ => decide (fu = 0)
/-- a run by a rule, m boats being left: who went, what was spent, what it leaves -/
def lk_rr (R Z : Nat → Int32) (qb qa : Nat → Nat) (nb na k ru : Nat) : Nat → Nat → Nat → Int32 → lk_O → lk_O → (Nat × Nat × Int32) × lk_J
  | 0, i, j, sp, V, T => ((i, j, sp), none, V, T)
  | m + 1, i, j, sp, V, T => match lk_frb R qb qa nb na i j (V 5 k) ru with
    | true => match lk_pas V k true (Z (qb i)) with
      | .inl V' => lk_rr R Z qb qa nb na k ru m (i + 1) j (sp + (V 6 (k + 1) - V' 6 (k + 1))) V' (lk_tad T (V 6 (k + 1) - V' 6 (k + 1)))
      | .inr q => ((i, j, sp), some (k, q), V, T)
    | false => match lk_pas V k false (Z (qa j)) with
      | .inl V' => lk_rr R Z qb qa nb na k ru m i (j + 1) (sp + (V 6 (k + 1) - V' 6 (k + 1))) V' (lk_tad T (V 6 (k + 1) - V' 6 (k + 1)))
      | .inr q => ((i, j, sp), some (k, q), V, T)
