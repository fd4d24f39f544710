theorem lk_k4 {α : Type} {r1 : Option lk_V} {τ1 : lk_T} {F : α → lk_N} {P : α → Prop} {R : Option lk_V → lk_N → lk_T → Prop} (h : ∀ W, P W → R r1 (F W) τ1) : ∀ r σ τ, (r = r1 ∧ τ = τ1 ∧ ∃ W, σ = F W ∧ P W) → R r σ τ := by
  rintro _ _ _ ⟨rfl, rfl, W, rfl, hW⟩; exact h W hW
/-- b comes into the row q from place p down: behind all whose rank isn't less -/
def lk_sft (R : Nat → Int32) (b : Nat) : Nat → (Nat → Nat) → (Nat → Nat)
  | 0, q => va_up q 0 b
  | p + 1, q => if R (q p) < R b then lk_sft R b p (va_up q (p + 1) (q p)) else va_up q (p + 1) b
/-- the boats 0 .. m - 1 of a reach that go a way: how many, and which -/
def lk_gat (B : lk_O) (r u : Int32) : Nat → Nat × (Nat → Nat)
  | 0 => (0, fun _ => 0)
  | m + 1 => if B 4 m = r ∧ B 3 m = u then ((lk_gat B r u m).1 + 1, lk_sft (B 2) m (lk_gat B r u m).1 (lk_gat B r u m).2) else lk_gat B r u m
theorem lk_gat_le (B : lk_O) (r u : Int32) : ∀ m, (lk_gat B r u m).1 ≤ m
  | 0 => Nat.le_refl _
  | m + 1 => by
    have := lk_gat_le B r u m
    unfold lk_gat
    split
    · show (lk_gat B r u m).1 + 1 ≤ m + 1; omega
    · omega
theorem lk_sft_lt (R : Nat → Int32) (b n : Nat) (hb : b < n) : ∀ (p : Nat) (q : Nat → Nat) (c : Nat), p ≤ c → (∀ i, i < c + 1 → i ≠ p → q i < n) → ∀ i, i < c + 1 → lk_sft R b p q i < n
  | 0, q, c, _, h, i, hi => by
    simp only [lk_sft, va_up]
    split
    · exact hb
    · rename_i e; exact h i hi e
  | p + 1, q, c, hp, h, i, hi => by
    simp only [lk_sft]
    split
    · refine lk_sft_lt R b n hb p _ c (by omega) (fun j hj hne => ?_) i hi
      simp only [va_up]
      split
      · exact h p (by omega) (by omega)
      · rename_i e; exact h j hj e
    · simp only [va_up]
      split
      · exact hb
      · rename_i e; exact h i hi e
theorem lk_gat_lt (B : lk_O) (r u : Int32) : ∀ m i, i < (lk_gat B r u m).1 → (lk_gat B r u m).2 i < m
  | 0, i, h => absurd h (Nat.not_lt_zero i)
  | m + 1, i, h => by
    have ih := lk_gat_lt B r u m
    unfold lk_gat at h ⊢
    split
    · rename_i e
      rw [if_pos e] at h
      exact lk_sft_lt (B 2) m (m + 1) (by omega) _ _ _ (Nat.le_refl _) (fun j hj hne => Nat.lt_succ_of_lt (ih j (by omega))) i h
    · rename_i e
      rw [if_neg e] at h
      exact Nat.lt_succ_of_lt (ih i h)
