theorem lk_inr2 {c f i : Nat} (hc : lk_ko c = 2) (h : lk_inr c f i) : (f < 5 ∧ i < 22) ∨ (f = 5 ∧ i = 0) := by
  unfold lk_inr at h
  rw [hc] at h
  have hf : f < 6 := by
    rcases Nat.lt_or_ge f 6 with q | q
    · exact q
    · have : lk_fk 2 f = (9, 0) := by
        unfold lk_fk
        rw [List.getD_eq_getElem?_getD, List.getElem?_eq_none (show (lk_fks.getD 2 []).length ≤ f from q)]
        rfl
      rw [this] at h
      simp at h
  have key : ∀ f, f < 6 → (f < 5 ∧ (lk_fk 2 f).2 = 22 ∧ 2 ≤ (lk_fk 2 f).1 ∧ (lk_fk 2 f).1 ≤ 3) ∨ (f = 5 ∧ (lk_fk 2 f).1 = 0) := by decide +kernel
  rcases key f hf with ⟨a, b, e, e1⟩ | ⟨a, b⟩ <;> omega
def lk_fcA (V W : lk_O) (i : Nat) : lk_O := fun f j => if f < 6 ∧ (f = 3 → j < i) then V f j else W f j
theorem lk_fc_fin {σ : lk_N} {a o f j : Nat} (hoc : ¬ o = a) (h : (f < 5 ∧ j < 22) ∨ (f = 5 ∧ j = 0)) :
    lk_fcA (σ o) (σ a) 0 f j = (lk_cp (lk_cp (lk_cp (lk_cp (lk_up σ a 5 0 (σ o 5 0)) o 0 a 0 22) o 1 a 1 22) o 2 a 2 22) o 4 a 4 22) a f j := by
  simp only [lk_fcA, lk_cp, lk_up, hoc, false_and, if_false, true_and]
  grind (splits := 40)
theorem lk_fc_end {V W : lk_O} {f j : Nat} (h : (f < 5 ∧ j < 22) ∨ (f = 5 ∧ j = 0)) : V f j = lk_fcA V W 22 f j := by
  simp only [lk_fcA]
  grind
theorem lk_fcA_s (σ : lk_N) (V W : lk_O) (c i : Nat) : lk_up (lk_so σ c (lk_fcA V W i)) c 3 i (V 3 i) = lk_so σ c (lk_fcA V W (i + 1)) := by
  rw [lk_up_so, lk_so_so, lk_so_eq]
  congr 1; funext f j
  simp only [lk_ou, lk_fcA]
  grind
/-- the number of the boat of this name, of m boats from number b on -/
def lk_fno (B : lk_O) (w : Int32) : Nat → Nat → Int32
  | 0, _ => -2
  | m + 1, b => if B 0 b = w then nI b else lk_fno B w m (b + 1)
def lk_fcr (B : lk_O) (a b : Nat) : lk_O := fun f i => if f < 5 ∧ i = b then B f a else B f i
def lk_dv (v : Int32) : Nat → Int32
  | 0 => v
  | m + 1 => lk_dv v m / 27
/-- the k-th figure of a name, and the letter that it tells -/
def lk_let (v : Int32) (k : Nat) : Int32 := lk_dv v (3 - k) - lk_dv v (3 - k) / 27 * 27
def lk_lett (v : Int32) (k : Nat) : Int32 := if lk_let v k = 0 then -2 else 96 + lk_let v k
def lk_lcn (v : Int32) : Nat → Nat → Nat
  | 0, k => k
  | m + 1, k => if lk_lett v k = -2 then k else lk_lcn v m (k + 1)
def lk_fnum (B : lk_O) (b w : Nat) : Int32 := if w = 0 then B 1 b else if w = 1 then B 2 b else if w = 2 then (if B 3 b = 0 then 0 else 1) else if w = 3 then B 4 b else nI (lk_lcn (B 0 b) 4 0)
/-- the first place whose name isn't less, of m places from b on -/
def lk_fpl (B : lk_O) (w : Int32) : Nat → Nat → Nat
  | 0, b => b
  | m + 1, b => if B 0 b < w then lk_fpl B w m (b + 1) else b
def lk_shi (B : lk_O) (i n : Nat) : lk_O := fun f j => if f < 5 ∧ i < j ∧ j ≤ n then B f (j - 1) else B f j
/-- a row is opened at p -/
def lk_fsh (B : lk_O) (p n : Nat) : lk_O := fun f j => if f < 5 ∧ p < j ∧ j ≤ n then B f (j - 1) else if f = 5 ∧ j = 0 then nI (n + 1) else B f j
theorem lk_shi_0 (σ : lk_N) (f n : Nat) : lk_so σ f (lk_shi (σ f) n n) = σ := by
  have : lk_shi (σ f) n n = σ f := by
    funext g j
    simp only [lk_shi]
    rw [if_neg (by omega)]
  rw [this, lk_so_self]
theorem lk_shi_s (B : lk_O) {i n : Nat} (h : 1 ≤ i) (h2 : i ≤ n) : lk_fcr (lk_shi B i n) (i - 1) i = lk_shi B (i - 1) n := by
  funext f j
  simp only [lk_fcr, lk_shi]
  grind
theorem lk_shi_e (B : lk_O) (p n : Nat) : lk_ou (lk_shi B p n) 5 0 (nI (n + 1)) = lk_fsh B p n := by
  funext f j
  simp only [lk_ou, lk_shi, lk_fsh]
  grind
