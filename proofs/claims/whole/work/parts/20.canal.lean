/-! WHAT A CANAL DOES, in numbers: an object's numbers are a function of field and place -/
abbrev lk_O : Type := Nat → Nat → Int32
def lk_ou (V : lk_O) (f i : Nat) (v : Int32) : lk_O := fun f' i' => if f' = f ∧ i' = i then v else V f' i'
def lk_so (σ : lk_N) (o : Nat) (V : lk_O) : lk_N := fun o' => if o' = o then V else σ o'
theorem lk_so_eq (σ : lk_N) (o : Nat) (V : lk_O) : lk_so σ o V o = V := by simp [lk_so]
theorem lk_so_ne {σ : lk_N} {o o' : Nat} {V : lk_O} (h : o' ≠ o) : lk_so σ o V o' = σ o' := by simp [lk_so, h]
theorem lk_so_so (σ : lk_N) (o : Nat) (V W : lk_O) : lk_so (lk_so σ o V) o W = lk_so σ o W := by
  funext o'
  by_cases h : o' = o <;> simp [lk_so, h]
theorem lk_so_self (σ : lk_N) (o : Nat) : lk_so σ o (σ o) = σ := by
  funext o'
  by_cases h : o' = o <;> simp [lk_so, h]
theorem lk_so_comm {σ : lk_N} {o o' : Nat} {V W : lk_O} (h : o ≠ o') : lk_so (lk_so σ o V) o' W = lk_so (lk_so σ o' W) o V := by
  funext a
  by_cases h1 : a = o
  · by_cases h2 : a = o'
    · exact absurd (h1.symm.trans h2) h
    · subst h1; simp [lk_so, h2]
  · by_cases h2 : a = o' <;> simp [lk_so, h1, h2, Ne.symm h]
theorem lk_up_so (σ : lk_N) (o f i : Nat) (v : Int32) : lk_up σ o f i v = lk_so σ o (lk_ou (σ o) f i v) := by
  funext a b c
  by_cases h : a = o
  · subst h; simp [lk_up, lk_so, lk_ou]
  · simp [lk_up, lk_so, h]
theorem lk_ou_eq (V : lk_O) (f i : Nat) (v : Int32) : lk_ou V f i v f i = v := by simp [lk_ou]
theorem lk_ou_ne {V : lk_O} {f i f' i' : Nat} {v : Int32} (h : ¬ (f' = f ∧ i' = i)) : lk_ou V f i v f' i' = V f' i' := by simp [lk_ou, h]
theorem lk_ou_self (V : lk_O) (f i : Nat) : lk_ou V f i (V f i) = V := by
  funext a b
  by_cases h : a = f ∧ b = i
  · obtain ⟨rfl, rfl⟩ := h; simp [lk_ou]
  · simp [lk_ou, h]
/-- a step by which a reach's water changes by g: within its least and its most -/
def lk_chk (V : lk_O) (r : Nat) (g : Int32) : Bool := decide (V 7 r ≤ V 6 r + g) && decide (V 6 r + g ≤ V 8 r)
def lk_side (V : lk_O) (r : Nat) (g : Int32) : Int32 := if V 6 r + g < V 7 r then 1 else 2
def lk_shr (V : lk_O) (k : Nat) : Int32 := V 2 k * V 3 k / (V 3 k + 2)
abbrev lk_P : Type := lk_O ⊕ (Int32 × Nat × Int32)
def lk_fil (V : lk_O) (k : Nat) : lk_P :=
  if lk_chk V (k + 1) (0 - (V 2 k - V 4 k)) = true then .inl (lk_ou (lk_ou (lk_ou V 6 (k + 1) (V 6 (k + 1) - (V 2 k - V 4 k))) 4 k 0) 5 k 1)
  else .inr (2, k + 1, lk_side V (k + 1) (0 - (V 2 k - V 4 k)))
def lk_emp (V : lk_O) (k : Nat) : lk_P :=
  if lk_chk V k (V 2 k - lk_shr V k) = true then .inl (lk_ou (lk_ou (lk_ou V 6 k (V 6 k + (V 2 k - lk_shr V k))) 4 k (lk_shr V k)) 5 k 0)
  else .inr (1, k, lk_side V k (V 2 k - lk_shr V k))
def lk_swp (V : lk_O) (k : Nat) (z : Int32) : lk_P :=
  if lk_chk V (k + 1) (0 - z) = true then
    (if lk_chk V k z = true then .inl (lk_ou (lk_ou V 6 (k + 1) (V 6 (k + 1) - z)) 6 k (V 6 k + z)) else .inr (3, k, lk_side V k z))
  else .inr (3, k + 1, lk_side V (k + 1) (0 - z))
def lk_sb (p : lk_P) (f : lk_O → lk_P) : lk_P := match p with
  | .inl V => f V
  | .inr q => .inr q
def lk_pas (V : lk_O) (k : Nat) (up : Bool) (z : Int32) : lk_P := match up with
  | true => lk_sb (lk_sb (if V 5 k = 0 then .inl V else lk_emp V k) (fun V => lk_fil V k)) (fun V => lk_swp V k z)
  | false => lk_sb (lk_sb (if V 5 k = 0 then lk_fil V k else .inl V) (fun V => lk_emp V k)) (fun V => lk_swp V k (0 - z))
/-- the cause, told -/
def lk_kau (K : lk_O) (k : Int32) (q : Int32 × Nat × Int32) : lk_O := lk_ou (lk_ou (lk_ou (lk_ou (lk_ou K 0 0 1) 1 0 k) 2 0 q.1) 3 0 (nI q.2.1)) 4 0 q.2.2
/-- two states of a canal that differ by what passages through lock k change, at most -/
def lk_near (V V' : lk_O) (k : Nat) : Prop := ∀ f i, ¬ (f = 6 ∧ (i = k ∨ i = k + 1)) → ¬ (f = 4 ∧ i = k) → ¬ (f = 5 ∧ i = k) → V' f i = V f i
theorem lk_near_rf (V : lk_O) (k : Nat) : lk_near V V k := fun _ _ _ _ _ => rfl
theorem lk_near_tr {V V' V'' : lk_O} {k : Nat} (h : lk_near V V' k) (h2 : lk_near V' V'' k) : lk_near V V'' k := fun f i a b c => (h2 f i a b c).trans (h f i a b c)
theorem lk_fil_near {V V' : lk_O} {k : Nat} (h : lk_fil V k = .inl V') : lk_near V V' k := by
  unfold lk_fil at h
  split at h
  · cases h
    intro f i a b c
    rw [lk_ou_ne c, lk_ou_ne b, lk_ou_ne (fun z => a ⟨z.1, Or.inr z.2⟩)]
  · cases h
theorem lk_emp_near {V V' : lk_O} {k : Nat} (h : lk_emp V k = .inl V') : lk_near V V' k := by
  unfold lk_emp at h
  split at h
  · cases h
    intro f i a b c
    rw [lk_ou_ne c, lk_ou_ne b, lk_ou_ne (fun z => a ⟨z.1, Or.inl z.2⟩)]
  · cases h
theorem lk_swp_near {V V' : lk_O} {k : Nat} {z : Int32} (h : lk_swp V k z = .inl V') : lk_near V V' k := by
  unfold lk_swp at h
  split at h
  · split at h
    · cases h
      intro f i a b c
      rw [lk_ou_ne (fun z => a ⟨z.1, Or.inl z.2⟩), lk_ou_ne (fun z => a ⟨z.1, Or.inr z.2⟩)]
    · cases h
  · cases h
/-- put back -/
theorem lk_near_back {V V' : lk_O} {k : Nat} (h : lk_near V V' k) : lk_ou (lk_ou (lk_ou (lk_ou V' 6 k (V 6 k)) 6 (k + 1) (V 6 (k + 1))) 4 k (V 4 k)) 5 k (V 5 k) = V := by
  funext f i
  by_cases h5 : f = 5 ∧ i = k
  · obtain ⟨rfl, rfl⟩ := h5; rw [lk_ou_eq]
  rw [lk_ou_ne h5]
  by_cases h4 : f = 4 ∧ i = k
  · obtain ⟨rfl, rfl⟩ := h4; rw [lk_ou_eq]
  rw [lk_ou_ne h4]
  by_cases h6 : f = 6 ∧ i = k + 1
  · obtain ⟨rfl, rfl⟩ := h6; rw [lk_ou_eq]
  rw [lk_ou_ne h6]
  by_cases h7 : f = 6 ∧ i = k
  · obtain ⟨rfl, rfl⟩ := h7; rw [lk_ou_eq]
  rw [lk_ou_ne h7]
  exact h f i (fun z => z.2.elim (fun y => h7 ⟨z.1, y⟩) (fun y => h6 ⟨z.1, y⟩)) h4 h5
/-- one more of this SPENT in the tally -/
def lk_tad (T : lk_O) (s : Int32) : lk_O := if s < -9 ∨ 108 < s then T else lk_ou T 0 (s - -9).toNatClampNeg (T 0 (s - -9).toNatClampNeg + 1)
def lk_paR (V : lk_O) (k : Nat) (p : lk_P) : Int32 := match p with
  | .inl V' => V 6 (k + 1) - V' 6 (k + 1)
  | .inr _ => -2000002
def lk_paS (σ : lk_N) (c k : Nat) (p : lk_P) : lk_N := match p with
  | .inl V' => lk_so (lk_so σ c V') (c + 1) (lk_tad (σ (c + 1)) (σ c 6 (k + 1) - V' 6 (k + 1)))
  | .inr q => lk_so σ (c + 2) (lk_kau (σ (c + 2)) (nI k) q)
