theorem lk_isl {V : lk_O} {T : lk_O} {σ : lk_N} {n k : Nat} (hV : lk_cok V n) (hk : k < n) : (0 : Int32) ≤ nI k ∧ nI k ≤ lk_ms σ V T 1 0 53 - 1 := by
  have h6 := hV.2.2.1
  refine ⟨nI_pos' (by omega), ?_⟩
  rw [lk_r0 rfl rfl, hV.1, lk_sub1 (by omega) (by omega)]; exact nI_le (by omega) (by omega)
theorem lk_nisl {V : lk_O} {T : lk_O} {σ : lk_N} {n : Nat} (hV : lk_cok V n) : ¬ ((0 : Int32) ≤ nI n ∧ nI n ≤ lk_ms σ V T 1 0 53 - 1) := by
  have h6 := hV.2.2.1
  rw [lk_r0 rfl rfl, hV.1]
  rintro ⟨_, h⟩
  rw [lk_sub1 hV.2.1 (by omega)] at h
  have := Int32.le_iff_toInt_le.mp h
  rw [nI_toInt (by omega), nI_toInt (by omega)] at this
  have := hV.2.1
  omega
theorem lk_nislm {V : lk_O} {T : lk_O} {σ : lk_N} : ¬ ((0 : Int32) ≤ nI 0 - 1 ∧ nI 0 - 1 ≤ lk_ms σ V T 1 0 53 - 1) := fun h => absurd h.1 (by decide)
theorem lk_isb {σ : lk_N} {nf b : Nat} (hn : σ 1 0 114 = nI nf) (hb : b < nf) (hn12 : nf ≤ 12) : (0 : Int32) ≤ nI b ∧ nI b ≤ σ 1 0 114 - 1 := by
  refine ⟨nI_pos' (by omega), ?_⟩
  rw [hn, lk_sub1 (by omega) (by omega)]; exact nI_le (by omega) (by omega)
theorem lk_nim2 {k : Nat} (h : k < 2147483648) : ¬ nI k = -2 := by
  intro e
  have := congrArg Int32.toInt e
  rw [nI_toInt h, show (-2 : Int32).toInt = -2 from rfl] at this
  omega
