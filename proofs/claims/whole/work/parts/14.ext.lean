/-! numbers that no cell has don't count -/
def lk_inr (o f i : Nat) : Prop := (((lk_fk (lk_ko o) f).1 = 0 ∨ (lk_fk (lk_ko o) f).1 = 5) ∧ i = 0) ∨ (((lk_fk (lk_ko o) f).1 = 2 ∨ (lk_fk (lk_ko o) f).1 = 3) ∧ i < (lk_fk (lk_ko o) f).2)
theorem lk_arrV_congr {cA : ClassId} {n : Nat} {f g : Nat → Value} (h : ∀ j, j < n → f j = g j) : arrV cA n f = arrV cA n g := by
  unfold arrV
  congr 1
  apply Array.ext_getElem?
  intro i
  simp only [Array.getElem?_ofFn]
  by_cases hi : i < n
  · simp [hi, h i hi]
  · simp [hi]
theorem lk_P_ext {X : lk_G} {σ σ' : lk_N} {τ : lk_T} {H : Heap} (h : ∀ o f i, lk_inr o f i → σ' o f i = σ o f i) (hP : va_P X.2.1 vwCl (lk_ws X σ τ) H) : va_P X.2.1 vwCl (lk_ws X σ' τ) H := by
  intro k q hk
  simp only [lk_ws, List.getElem?_map] at hk
  cases hc : lk_cells[k]? with
  | none => rw [hc] at hk; cases hk
  | some z =>
    rw [hc] at hk
    cases hk
    have h0 := hP k (X.1 z.1 z.2, lk_e X σ τ z) (by simp [lk_ws, hc])
    obtain ⟨o, f⟩ := z
    cases f with
    | zero =>
      have e : lk_e X σ' τ (o, 0) = lk_e X σ τ (o, 0) := by
        show Sum.inr _ = Sum.inr _
        congr 2
        apply List.map_congr_left
        intro j _
        unfold lk_fv
        by_cases hj : (lk_fk (lk_ko o) j).1 = 0 ∨ (lk_fk (lk_ko o) j).1 = 5
        · rw [if_pos hj, if_pos hj, h o j 0 (Or.inl ⟨hj, rfl⟩)]
        · rw [if_neg hj, if_neg hj]
      show va_at X.2.1 vwCl (X.1 o 0, lk_e X σ' τ (o, 0)) H
      rw [e]; exact h0
    | succ f =>
      have hm := lk_mem_kind (List.mem_of_getElem? hc)
      have h1 : H[X.1 o (f + 1)]? = some (vp_cell (if (lk_fk (lk_ko o) f).1 = 3 then X.2.2.2 else X.2.2.1) ((lk_fk (lk_ko o) f).2, .inl (σ o f))) := h0
      show H[X.1 o (f + 1)]? = some (vp_cell (if (lk_fk (lk_ko o) f).1 = 3 then X.2.2.2 else X.2.2.1) ((lk_fk (lk_ko o) f).2, .inl (σ' o f)))
      rw [h1, vp_cell_i, vp_cell_i]
      congr 1
      exact lk_arrV_congr (fun j hj => by rw [h o f j (Or.inr ⟨hm, hj⟩)])
section LKE
variable {l : Launch} {X : lk_G} {M : lk_M} {d pc : Nat} {L : List (Nat × lk_V)} {S : List lk_V} {σ : lk_N} {τ : lk_T} {Q : lk_Q}
theorem lk_ext {σ' : lk_N} (h : ∀ o f i, lk_inr o f i → σ' o f i = σ o f i) (k : lk_W l X M d pc L S σ' τ Q) : lk_W l X M d pc L S σ τ Q :=
  fun p e s m args below meth c H locs ls C hP hD hS hl => k p e s m args below meth c H locs ls C (lk_P_ext h hP) (lk_D_any hD) hS hl
theorem lk_sg {σ' : lk_N} (h : σ' = σ) (k : lk_W l X M d pc L S σ' τ Q) : lk_W l X M d pc L S σ τ Q := by subst h; exact k
end LKE
theorem lk_inr0 {c f i : Nat} (hc : lk_ko c = 0) (h : lk_inr c f i) : (f ≤ 1 ∧ i = 0) ∨ (2 ≤ f ∧ f ≤ 5 ∧ i < 6) ∨ (6 ≤ f ∧ f ≤ 9 ∧ i < 7) ∨ (f = 12 ∧ i = 0) := by
  unfold lk_inr at h
  rw [hc] at h
  have hf : f < 13 := by
    rcases Nat.lt_or_ge f 13 with q | q
    · exact q
    · have : lk_fk 0 f = (9, 0) := by
        unfold lk_fk
        rw [List.getD_eq_getElem?_getD, List.getElem?_eq_none (show (lk_fks.getD 0 []).length ≤ f from q)]
        rfl
      rw [this] at h
      simp at h
  have key : ∀ f, f < 13 → (f ≤ 1 ∧ (lk_fk 0 f).1 = 0) ∨ (2 ≤ f ∧ f ≤ 5 ∧ (lk_fk 0 f).2 = 6 ∧ 2 ≤ (lk_fk 0 f).1 ∧ (lk_fk 0 f).1 ≤ 3) ∨ (6 ≤ f ∧ f ≤ 9 ∧ (lk_fk 0 f).2 = 7 ∧ (lk_fk 0 f).1 = 2) ∨ ((f = 10 ∨ f = 11) ∧ (lk_fk 0 f).1 = 4) ∨ (f = 12 ∧ (lk_fk 0 f).1 = 5) := by decide +kernel
  rcases key f hf with ⟨a, b⟩ | ⟨a, b, e, e1, e2⟩ | ⟨a, b, e, e1⟩ | ⟨a, b⟩ | ⟨a, b⟩ <;> omega
theorem lk_inr5 {c f i : Nat} (hc : lk_ko c = 5) (h : lk_inr c f i) : f = 0 ∧ i < 118 := by
  unfold lk_inr at h
  rw [hc] at h
  have hf : f < 1 := by
    rcases Nat.lt_or_ge f 1 with q | q
    · exact q
    · have : lk_fk 5 f = (9, 0) := by
        unfold lk_fk
        rw [List.getD_eq_getElem?_getD, List.getElem?_eq_none (show (lk_fks.getD 5 []).length ≤ f from q)]
        rfl
      rw [this] at h
      simp at h
  have : f = 0 := by omega
  subst this
  have e : lk_fk 5 0 = (2, 118) := rfl
  rw [e] at h
  simp at h
  exact ⟨rfl, h⟩
