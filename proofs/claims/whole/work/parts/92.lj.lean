/-! THE BEGINNING IS RELATED -/
def lk_bgb : lk_N := fun o f i => if o = 2 then lk_rst 2 (fun _ _ => 0) f i else 0
def lk_bgz : lk_N := lk_sw lk_bgb 1 0 (lk_bgn 2 (fun _ => 0))
theorem lk_bgz_2 : lk_bgz 2 = lk_rst 2 (fun _ _ => 0) := by
  funext f i
  simp [lk_bgz, lk_sw, lk_bgb]
theorem lk_bgz_10 : lk_bgz 1 0 = lk_bgn 2 (fun _ => 0) := by
  funext i
  simp [lk_bgz, lk_sw]
theorem lk_bgz_0 {o f i : Nat} (h : ¬ o = 2) (h1 : ¬ (o = 1 ∧ f = 0)) : lk_bgz o f i = 0 := by
  simp [lk_bgz, lk_sw, lk_bgb, h, h1]
theorem lk_bgz_o {o : Nat} (h : ¬ o = 2) (h1 : ¬ o = 1) : lk_bgz o = fun _ _ => 0 := by
  funext f i
  exact lk_bgz_0 h (fun z => h1 z.1)
theorem lk_Rel0 : lk_Rel lk_bgz lk_t0 0 := by
  refine ⟨2, 0, 0, ⟨?_, ?_, ?_, ?_, ?_⟩, ⟨?_, by decide, ?_, fun a h => absurd h (by omega)⟩, fun i hi => ?_, rfl, Or.inl ⟨?_, ?_⟩⟩
  · rw [lk_bgz_2]
    exact lk_all_rst (by decide) (by decide) _
  · rw [lk_bgz_2, lk_bgz_10, lk_bgz_o (o := 3) (by decide) (by decide)]
    exact lk_bgn_mw 2 (by funext i; simp [lk_mw])
  · rw [lk_bgz_10]
    exact ⟨by simp [lk_bgn], by simp [lk_bgn]⟩
  · intro k hk
    rw [lk_bgz_o (o := 3) (by decide) (by decide)]
    exact ⟨by show (0 : Int) ≤ (0 : Int32).toInt; decide, by show (0 : Int32).toInt ≤ 60 * ((0 : Nat) : Int); decide⟩
  · rw [lk_bgz_10, lk_bgz_o (o := 11) (by decide) (by decide)]
    exact ⟨by decide, by decide, by simp [lk_bgn]; decide, fun b hb => absurd hb (by omega), fun i _ => Or.inl rfl, fun b hb => absurd hb (by omega), fun a b _ hb => absurd hb (by omega)⟩
  · rw [lk_bgz_0 (by decide) (by decide)]; decide
  · rw [lk_bgz_0 (by decide) (by decide)]; decide
  · rw [lk_bgz_0 (o := 1) (by decide) (by decide), lk_bgz_o (o := 4) (by decide) (by decide)]
    simp [lk_cnum]
  · exact lk_bgz_0 (by decide) (by decide)
  · exact lk_bgz_0 (by decide) (by decide)
theorem lk_s0_0 {G : Nat → Nat → Int32} {o f i : Nat} (h : ¬ o = 2) : lk_s0 G o f i = 0 := by
  unfold lk_s0
  split
  all_goals first | rfl | exact absurd rfl h
theorem lk_s0_c {G : Nat → Nat → Int32} (hG : lk_RP G) {f i : Nat} (h : lk_inr 2 f i) : lk_s0 G 2 f i = lk_rst 2 (fun _ _ => 0) f i := by
  rcases lk_inr0 rfl h with ⟨h1, rfl⟩ | ⟨h1, h2, h3⟩ | ⟨h1, h2, h3⟩ | ⟨rfl, rfl⟩
  · rcases (show f = 0 ∨ f = 1 by omega) with rfl | rfl <;> rfl
  · obtain ⟨a, b, c, d⟩ := hG.1 i h3
    rcases (show f = 2 ∨ f = 3 ∨ f = 4 ∨ f = 5 by omega) with rfl | rfl | rfl | rfl
    · exact a
    · exact b
    · exact c
    · exact d
  · obtain ⟨a, b, c, d⟩ := hG.2 i h3
    rcases (show f = 6 ∨ f = 7 ∨ f = 8 ∨ f = 9 by omega) with rfl | rfl | rfl | rfl
    · exact a
    · exact b
    · exact c
    · exact d
  · rfl
theorem lk_s1_ext {G : Nat → Nat → Int32} (hG : lk_RP G) : ∀ o f i, lk_inr o f i → lk_bgz o f i = lk_s1 G o f i := by
  intro o f i h
  by_cases h1 : o = 1 ∧ f = 0
  · obtain ⟨rfl, rfl⟩ := h1
    have e : lk_s0 G 1 0 = fun _ => 0 := funext fun j => lk_s0_0 (by decide)
    rw [lk_bgz_10]
    simp [lk_s1, lk_sw, e]
  · by_cases h2 : o = 2
    · subst h2
      rw [lk_bgz_2, ← lk_s0_c hG h]
      simp [lk_s1, lk_sw]
    · rw [lk_bgz_0 h2 h1]
      simp [lk_s1, lk_sw, h1, lk_s0_0 h2]
