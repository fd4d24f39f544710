/-! THE PURE JUDGEMENT: a world of fixed shape (19 objects and their arrays), its numbers a function; a method's walk speaks of numbers alone -/
abbrev lk_V : Type := Int32 ⊕ (Int64 ⊕ (Nat × Nat))
abbrev lk_vi (x : Int32) : lk_V := .inl x
abbrev lk_vl (x : Int64) : lk_V := .inr (.inl x)
abbrev lk_vr (o f : Nat) : lk_V := .inr (.inr (o, f))
abbrev lk_N : Type := Nat → Nat → Nat → Int32
abbrev lk_T : Type := Nat → Nat → Int64
abbrev lk_Q : Type := Option lk_V → lk_N → lk_T → Prop
abbrev lk_G : Type := (Nat → Nat → Nat) × va_G × ClassId × ClassId
def lk_c (γ : Nat → Nat → Nat) : lk_V → Value
  | .inl x => .int x
  | .inr (.inl x) => .long x
  | .inr (.inr q) => .ref (γ q.1 q.2)
def lk_cat : lk_V → Nat
  | .inr (.inl _) => 2
  | _ => 1
theorem lk_c_cat (γ : Nat → Nat → Nat) (v : lk_V) : (lk_c γ v).category = lk_cat v := by
  rcases v with x | x | q <;> rfl
/-- which class each object is of -/
def lk_kos : List Nat := [8, 9, 0, 5, 1, 0, 5, 1, 0, 5, 1, 2, 2, 2, 6, 3, 3, 4, 7]
def lk_ko (o : Nat) : Nat := lk_kos.getD o 99
/-- the fields of each class: 0 int, 1 long, 2 ints, 3 booleans, 4 object, 5 boolean; how long a row is -/
def lk_fks : List (List (Nat × Nat)) :=
  [[(0, 0), (0, 0), (2, 6), (2, 6), (2, 6), (3, 6), (2, 7), (2, 7), (2, 7), (2, 7), (4, 0), (4, 0), (5, 0)],
   [(5, 0), (0, 0), (0, 0), (0, 0), (0, 0)],
   [(2, 22), (2, 22), (2, 22), (3, 22), (2, 22), (0, 0)],
   [(2, 22), (0, 0)],
   [(0, 0), (0, 0), (0, 0)],
   [(2, 118)],
   [(2, 60), (0, 0), (0, 0), (0, 0), (5, 0), (0, 0), (0, 0), (0, 0)],
   [(0, 0), (0, 0), (0, 0), (0, 0), (0, 0)],
   [(4, 0), (4, 0), (4, 0), (1, 0), (4, 0), (4, 0), (1, 0), (5, 0), (4, 0), (4, 0), (4, 0), (4, 0), (4, 0), (4, 0)],
   [(2, 235), (2, 235), (2, 235), (5, 0), (1, 0), (1, 0), (0, 0), (0, 0), (0, 0), (0, 0), (5, 0), (2, 4), (0, 0), (2, 60), (0, 0), (0, 0), (2, 60), (0, 0), (0, 0), (0, 0), (2, 12), (2, 12), (0, 0), (0, 0), (0, 0), (0, 0), (0, 0), (2, 12), (2, 12)]]
def lk_fk (ci f : Nat) : Nat × Nat := (lk_fks.getD ci []).getD f (9, 0)
def lk_nf (ci : Nat) : Nat := (lk_fks.getD ci []).length
/-- the object that a field of an object holds -/
def lk_fo (o f : Nat) : Nat := if o = 0 then [2, 11, 14, 0, 5, 13, 0, 0, 8, 12, 15, 16, 17, 18].getD f 0 else if f = 10 then o + 1 else o + 2
def lk_rows (ci : Nat) : List Nat := (List.range (lk_nf ci)).filter (fun f => (lk_fk ci f).1 == 2 || (lk_fk ci f).1 == 3)
def lk_cells : List (Nat × Nat) := (List.range 19).flatMap fun o => (o, 0) :: (lk_rows (lk_ko o)).map (fun f => (o, f + 1))
def lk_fv (γ : Nat → Nat → Nat) (σ : lk_N) (τ : lk_T) (o f : Nat) : Value :=
  if (lk_fk (lk_ko o) f).1 = 0 ∨ (lk_fk (lk_ko o) f).1 = 5 then .int (σ o f 0) else if (lk_fk (lk_ko o) f).1 = 1 then .long (τ o f) else if (lk_fk (lk_ko o) f).1 = 4 then .ref (γ (lk_fo o f) 0) else .ref (γ o (f + 1))
def lk_e (X : lk_G) (σ : lk_N) (τ : lk_T) (q : Nat × Nat) : va_E := match q.2 with
  | 0 => .inr (lk_ko q.1, (List.range (lk_nf (lk_ko q.1))).map (lk_fv X.1 σ τ q.1))
  | f + 1 => .inl (if (lk_fk (lk_ko q.1) f).1 = 3 then X.2.2.2 else X.2.2.1, (lk_fk (lk_ko q.1) f).2, .inl (σ q.1 f))
def lk_ws (X : lk_G) (σ : lk_N) (τ : lk_T) : va_W := lk_cells.map (fun q => (X.1 q.1 q.2, lk_e X σ τ q))
def lk_up (σ : lk_N) (o f i : Nat) (v : Int32) : lk_N := fun o' f' i' => if o' = o ∧ f' = f ∧ i' = i then v else σ o' f' i'
def lk_ut (τ : lk_T) (o f : Nat) (v : Int64) : lk_T := fun o' f' => if o' = o ∧ f' = f then v else τ o' f'
def lk_rm (d : Nat) : Room := { frames := d, cells := 0, slots := 0, locals := 40 * d }
def lk_wd (M : lk_M) : List Cond := .code M.1 M.2.1 M.2.2.1 M.2.2.2 :: lk_AW
def lk_A (X : lk_G) : Nat → Prop := fun a => ∃ q ∈ lk_cells, X.1 q.1 q.2 = a
def lk_tys (X : lk_G) : List (ClassId × FieldType) := [(X.2.2.1, .int), (X.2.2.2, .boolean)]
def lk_H (X : lk_G) (σ : lk_N) (τ : lk_T) (U : State) : Prop := va_P X.2.1 vwCl (lk_ws X σ τ) U.heap ∧ va_K X.2.1 vwCl (lk_tys X) U ∧ va_D (lk_A X) (lk_ws X σ τ)
def lk_Qc (X : lk_G) (Q : lk_Q) : Array Value → State → Outcome → State → Prop := fun _ st oc t => (∃ (r : Option lk_V) (σ : lk_N) (τ : lk_T), oc = .returned (r.map (lk_c X.1)) ∧ Q r σ τ ∧ lk_H X σ τ t) ∧ va_F (lk_A X) st t
/-- a method's contract: out of these numbers, with these arguments, within d frames, it comes back with Q -/
def lk_Mt (l : Launch) (X : lk_G) (M : lk_M) (d : Nat) (args : List lk_V) (σ : lk_N) (τ : lk_T) (Q : lk_Q) : Prop :=
  Met l M.1 (lk_wd M) (lk_rm d) (va_Pc (args.map (lk_c X.1)) (lk_H X σ τ)) (lk_Qc X Q) 0 0 (lk_A X)
def lk_C (X : lk_G) (M : lk_M) (p : Program) (s : State) (m : MethodId) (args : Array Value) (meth : Method) (c : Code) : Prop :=
  p.tables.exec = Jvm.exec ∧ c.code = M.2.1 ∧ meth.sig.returnType = M.2.2.2 ∧ c.maxLocals = M.2.2.1 ∧ s.vm.findClass M.1.cls = some m.cls ∧ (∀ w ∈ lk_wd M, w.before args s = true) ∧ meth.locks = false ∧ va_K X.2.1 vwCl (lk_tys X) s
/-- at pc, with these locals and this stack and these numbers, the method comes back with Q -/
def lk_W (l : Launch) (X : lk_G) (M : lk_M) (d pc : Nat) (L : List (Nat × lk_V)) (S : List lk_V) (σ : lk_N) (τ : lk_T) (Q : lk_Q) : Prop :=
  ∀ (p : Program) (e : Env) (s : State) (m : MethodId) (args : Array Value) (below : List Frame) (meth : Method) (c : Code) (H : Heap) (locs : List Loc) (ls : Array Slot),
    lk_C X M p s m args meth c → va_P X.2.1 vwCl (lk_ws X σ τ) H → va_D (lk_A X) (lk_ws X σ τ) → va_S (lk_A X) s.heap H locs → lv_has ls M.2.2.1 (L.map (fun q => (q.1, lk_c X.1 q.2))) →
    W p l e (lk_rm d) s m args below meth c H locs 0 0 (MQ below (lk_Qc X Q) args s 0 0 (lk_A X)) (F0 m pc ls (S.map (lk_c X.1)))
/-! the world's places -/
theorem lk_cells_nodup : lk_cells.Nodup := by decide +kernel
theorem lk_at {X : lk_G} {σ : lk_N} {τ : lk_T} {o f : Nat} (h : (o, f) ∈ lk_cells) : ∃ k : Nat, lk_cells[k]? = some (o, f) ∧ (lk_ws X σ τ)[k]? = some (X.1 o f, lk_e X σ τ (o, f)) := by
  obtain ⟨k, hk⟩ := List.getElem?_of_mem h
  exact ⟨k, hk, by simp [lk_ws, hk]⟩
theorem lk_nodup_inj {α : Type} : ∀ {l : List α}, l.Nodup → ∀ {i j : Nat} {a : α}, l[i]? = some a → l[j]? = some a → i = j
  | [], _, _, _, _, h, _ => by simp at h
  | b :: t, hn, i, j, a, h1, h2 => by
    have hb := (List.nodup_cons.mp hn).1
    have ht := (List.nodup_cons.mp hn).2
    cases i with
    | zero =>
      cases j with
      | zero => rfl
      | succ j =>
        rw [List.getElem?_cons_zero] at h1
        rw [List.getElem?_cons_succ] at h2
        cases h1
        exact absurd (List.mem_of_getElem? h2) hb
    | succ i =>
      rw [List.getElem?_cons_succ] at h1
      cases j with
      | zero =>
        rw [List.getElem?_cons_zero] at h2
        cases h2
        exact absurd (List.mem_of_getElem? h1) hb
      | succ j =>
        rw [List.getElem?_cons_succ] at h2
        rw [lk_nodup_inj ht h1 h2]
theorem lk_set {X : lk_G} {σ σ' : lk_N} {τ τ' : lk_T} {o f k : Nat} (hk : lk_cells[k]? = some (o, f)) (h : ∀ q ∈ lk_cells, q ≠ (o, f) → lk_e X σ' τ' q = lk_e X σ τ q) : (lk_ws X σ τ).set k (X.1 o f, lk_e X σ' τ' (o, f)) = lk_ws X σ' τ' := by
  have hl := (List.getElem?_eq_some_iff.mp hk).1
  apply List.ext_getElem?
  intro j
  by_cases hj : j = k
  · subst hj
    rw [List.getElem?_set_self (by simpa [lk_ws] using hl)]
    simp [lk_ws, hk]
  · rw [List.getElem?_set_ne (fun z => hj z.symm)]
    simp only [lk_ws, List.getElem?_map]
    cases hq : lk_cells[j]? with
    | none => rfl
    | some q =>
      have hne : q ≠ (o, f) := by
        intro z
        subst z
        exact hj (lk_nodup_inj lk_cells_nodup hq hk)
      simp [h q (List.mem_of_getElem? hq) hne]
theorem lk_ko_lt {o ci : Nat} (h : lk_ko o = ci) (hc : ci < 10) : o < 19 := by
  rcases Nat.lt_or_ge o 19 with q | q
  · exact q
  · have : lk_ko o = 99 := by
      unfold lk_ko
      rw [List.getD_eq_getElem?_getD, List.getElem?_eq_none (show lk_kos.length ≤ o from q)]
      rfl
    omega
theorem lk_mem0 {o : Nat} (h : o < 19) : (o, 0) ∈ lk_cells := by
  have : ∀ o, o < 19 → (o, 0) ∈ lk_cells := by decide +kernel
  exact this o h
theorem lk_memR {o f : Nat} (h : o < 19) (hk : (lk_fk (lk_ko o) f).1 = 2 ∨ (lk_fk (lk_ko o) f).1 = 3) : (o, f + 1) ∈ lk_cells := by
  have hf : f < lk_nf (lk_ko o) := by
    rcases Nat.lt_or_ge f (lk_nf (lk_ko o)) with q | q
    · exact q
    · have : lk_fk (lk_ko o) f = (9, 0) := by
        unfold lk_fk
        rw [List.getD_eq_getElem?_getD, List.getElem?_eq_none q]
        rfl
      rw [this] at hk
      simp at hk
  unfold lk_cells
  refine List.mem_flatMap.mpr ⟨o, List.mem_range.mpr h, List.mem_cons_of_mem _ (List.mem_map.mpr ⟨f, ?_, rfl⟩)⟩
  unfold lk_rows
  refine List.mem_filter.mpr ⟨List.mem_range.mpr hf, ?_⟩
  rcases hk with q | q <;> simp [q]
theorem lk_mem_kind {o f : Nat} (h : (o, f + 1) ∈ lk_cells) : (lk_fk (lk_ko o) f).1 = 2 ∨ (lk_fk (lk_ko o) f).1 = 3 := by
  unfold lk_cells at h
  obtain ⟨o2, -, h2⟩ := List.mem_flatMap.mp h
  rcases List.mem_cons.mp h2 with h3 | h3
  · cases h3
  · obtain ⟨f2, h4, h5⟩ := List.mem_map.mp h3
    cases h5
    have h6 := (List.mem_filter.mp h4).2
    simpa using h6
theorem lk_D_any {X : lk_G} {σ σ' : lk_N} {τ τ' : lk_T} {A : Nat → Prop} (h : va_D A (lk_ws X σ τ)) : va_D A (lk_ws X σ' τ') := by
  have key : ∀ (k : Nat) (q : Nat × va_E), (lk_ws X σ' τ')[k]? = some q → ∃ e, (lk_ws X σ τ)[k]? = some (q.1, e) := by
    intro k q hk
    simp only [lk_ws, List.getElem?_map] at hk ⊢
    cases hc : lk_cells[k]? with
    | none => rw [hc] at hk; cases hk
    | some z => rw [hc] at hk; cases hk; exact ⟨_, rfl⟩
  refine ⟨fun i j p q hi hj hpq => ?_, fun k q hk => ?_⟩
  · obtain ⟨e1, h1⟩ := key i p hi
    obtain ⟨e2, h2⟩ := key j q hj
    exact h.1 i j _ _ h1 h2 hpq
  · obtain ⟨e1, h1⟩ := key k q hk
    exact h.2 k (q.1, e1) h1
theorem lk_up_eq (σ : lk_N) (o f i : Nat) (v : Int32) : lk_up σ o f i v o f i = v := by simp [lk_up]
theorem lk_up_ne {σ : lk_N} {o f i : Nat} {v : Int32} {o' f' i' : Nat} (h : ¬ (o' = o ∧ f' = f ∧ i' = i)) : lk_up σ o f i v o' f' i' = σ o' f' i' := by simp [lk_up, h]
theorem lk_ut_eq (τ : lk_T) (o f : Nat) (v : Int64) : lk_ut τ o f v o f = v := by simp [lk_ut]
theorem lk_ut_ne {τ : lk_T} {o f : Nat} {v : Int64} {o' f' : Nat} (h : ¬ (o' = o ∧ f' = f)) : lk_ut τ o f v o' f' = τ o' f' := by simp [lk_ut, h]
/-- a number field of an object put: what its cell becomes, and no other -/
theorem lk_e_putI {X : lk_G} {σ : lk_N} {τ : lk_T} {o f : Nat} {v : Int32} (hk : (lk_fk (lk_ko o) f).1 = 0 ∨ (lk_fk (lk_ko o) f).1 = 5) (hf : f < lk_nf (lk_ko o)) :
    (Sum.inr (lk_ko o, ((List.range (lk_nf (lk_ko o))).map (lk_fv X.1 σ τ o)).set f (.int v)) : va_E) = lk_e X (lk_up σ o f 0 v) τ (o, 0) ∧ ∀ q ∈ lk_cells, q ≠ (o, 0) → lk_e X (lk_up σ o f 0 v) τ q = lk_e X σ τ q := by
  refine ⟨?_, ?_⟩
  · show Sum.inr _ = Sum.inr _
    congr 2
    apply List.ext_getElem?
    intro j
    by_cases hj : j = f
    · subst hj
      rw [List.getElem?_set_self (by simpa using hf)]
      simp [List.getElem?_range hf, lk_fv, hk, lk_up]
    · rw [List.getElem?_set_ne (fun z => hj z.symm)]
      simp only [List.getElem?_map]
      rcases Nat.lt_or_ge j (lk_nf (lk_ko o)) with q | q
      · rw [List.getElem?_range q]
        simp [lk_fv, lk_up, hj]
      · rw [List.getElem?_eq_none (by simpa using q)]
        rfl
  · rintro ⟨o', f'⟩ hmem hne
    cases f' with
    | zero =>
      have ho : o' ≠ o := fun z => hne (by rw [z])
      show Sum.inr _ = Sum.inr _
      congr 2
      apply List.map_congr_left
      intro j _
      simp [lk_fv, lk_up, ho]
    | succ f' =>
      show Sum.inl _ = Sum.inl _
      congr 3
      congr 1
      funext i
      refine lk_up_ne ?_
      rintro ⟨h1, h2, h3⟩
      have hm := lk_mem_kind hmem
      have h1' : o' = o := h1
      rw [h1', h2] at hm
      rcases hk with a | a <;> rcases hm with b | b <;> rw [a] at b <;> cases b
/-- a long field of an object put -/
theorem lk_e_putL {X : lk_G} {σ : lk_N} {τ : lk_T} {o f : Nat} {v : Int64} (hk : (lk_fk (lk_ko o) f).1 = 1) (hf : f < lk_nf (lk_ko o)) :
    (Sum.inr (lk_ko o, ((List.range (lk_nf (lk_ko o))).map (lk_fv X.1 σ τ o)).set f (.long v)) : va_E) = lk_e X σ (lk_ut τ o f v) (o, 0) ∧ ∀ q ∈ lk_cells, q ≠ (o, 0) → lk_e X σ (lk_ut τ o f v) q = lk_e X σ τ q := by
  refine ⟨?_, ?_⟩
  · show Sum.inr _ = Sum.inr _
    congr 2
    apply List.ext_getElem?
    intro j
    by_cases hj : j = f
    · subst hj
      rw [List.getElem?_set_self (by simpa using hf)]
      simp [List.getElem?_range hf, lk_fv, hk, lk_ut]
    · rw [List.getElem?_set_ne (fun z => hj z.symm)]
      simp only [List.getElem?_map]
      rcases Nat.lt_or_ge j (lk_nf (lk_ko o)) with q | q
      · rw [List.getElem?_range q]
        simp [lk_fv, lk_ut, hj]
      · rw [List.getElem?_eq_none (by simpa using q)]
        rfl
  · rintro ⟨o', f'⟩ hmem hne
    cases f' with
    | zero =>
      have ho : o' ≠ o := fun z => hne (by rw [z])
      show Sum.inr _ = Sum.inr _
      congr 2
      apply List.map_congr_left
      intro j _
      simp [lk_fv, lk_ut, ho]
    | succ f' => rfl
/-- a row of numbers changed: what its cell becomes, and no other -/
theorem lk_e_row {X : lk_G} {σ : lk_N} {τ : lk_T} {o f : Nat} {g : Nat → Int32} {σ' : lk_N} (hσ : ∀ o' f' i', σ' o' f' i' = if o' = o ∧ f' = f then g i' else σ o' f' i') (hk : (lk_fk (lk_ko o) f).1 = 2 ∨ (lk_fk (lk_ko o) f).1 = 3) :
    (Sum.inl (if (lk_fk (lk_ko o) f).1 = 3 then X.2.2.2 else X.2.2.1, (lk_fk (lk_ko o) f).2, .inl g) : va_E) = lk_e X σ' τ (o, f + 1) ∧ ∀ q ∈ lk_cells, q ≠ (o, f + 1) → lk_e X σ' τ q = lk_e X σ τ q := by
  refine ⟨?_, ?_⟩
  · show Sum.inl _ = Sum.inl _
    congr 3
    congr 1
    funext i
    rw [hσ, if_pos ⟨rfl, rfl⟩]
  · rintro ⟨o', f'⟩ hmem hne
    cases f' with
    | zero =>
      show Sum.inr _ = Sum.inr _
      congr 2
      apply List.map_congr_left
      intro j _
      by_cases h : o' = o ∧ j = f
      · obtain ⟨h1, h2⟩ := h
        subst h1; subst h2
        have e1 : ¬ ((lk_fk (lk_ko o') j).1 = 0 ∨ (lk_fk (lk_ko o') j).1 = 5) := by omega
        simp [lk_fv, e1]
      · simp [lk_fv, hσ, h]
    | succ f' =>
      show Sum.inl _ = Sum.inl _
      congr 3
      congr 1
      funext i
      rw [hσ, if_neg]
      rintro ⟨h1, h2⟩
      have h1' : o' = o := h1
      exact hne (by rw [h1', h2])
theorem lk_up_row (σ : lk_N) (o f i : Nat) (v : Int32) : ∀ o' f' i', lk_up σ o f i v o' f' i' = if o' = o ∧ f' = f then upd (σ o f) i v i' else σ o' f' i' := by
  intro o' f' i'
  unfold lk_up upd
  by_cases h : o' = o ∧ f' = f
  · obtain ⟨h1, h2⟩ := h
    subst h1; subst h2
    by_cases h3 : i' = i <;> simp [h3]
  · rw [if_neg h, if_neg (fun z => h ⟨z.1, z.2.1⟩)]
