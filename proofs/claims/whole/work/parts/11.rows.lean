/-! THE ROWS of the pure judgement: an instruction each, out of the kit's rows -/
def lk_T0 (ci : Nat) : u_T := match vwCl[ci]? with
  | some q => q.2.1
  | none => TX0
def lk_lk (own : String) (idx ci f : Nat) : Cond := .fieldLink own idx (lk_T0 ci f).1 (lk_T0 ci f).2.1 (lk_T0 ci f).2.2.1
theorem lk_tab : ∀ ci, ci < 10 → ∃ (C : String) (ty0 : Nat → FieldType), vwCl[ci]? = some (C, lk_T0 ci, lk_nf ci) ∧ (∀ w ∈ u_ws C (lk_T0 ci) (lk_nf ci), w ∈ lk_AW) ∧ (∀ k, k < lk_nf ci → parseFieldDescriptor (lk_T0 ci k).2.2.1 = some (ty0 k)) ∧ (∀ a, a < lk_nf ci → ∀ b, b < lk_nf ci → a ≠ b → (lk_T0 ci a).2.1 ≠ (lk_T0 ci b).2.1)
  | 0, _ => ⟨RX0, tyX0, rfl, iwX0, tyX0_ok, nmX0⟩
  | 1, _ => ⟨RX1, tyX1, rfl, iwX1, tyX1_ok, nmX1⟩
  | 2, _ => ⟨RX2, tyX2, rfl, iwX2, tyX2_ok, nmX2⟩
  | 3, _ => ⟨RX3, tyX3, rfl, iwX3, tyX3_ok, nmX3⟩
  | 4, _ => ⟨RX4, tyX4, rfl, iwX4, tyX4_ok, nmX4⟩
  | 5, _ => ⟨RX5, tyX5, rfl, iwX5, tyX5_ok, nmX5⟩
  | 6, _ => ⟨RX6, tyX6, rfl, iwX6, tyX6_ok, nmX6⟩
  | 7, _ => ⟨RX7, tyX7, rfl, iwX7, tyX7_ok, nmX7⟩
  | 8, _ => ⟨RX8, tyX8, rfl, iwX8, tyX8_ok, nmX8⟩
  | 9, _ => ⟨RX9, tyX9, rfl, iwX9, tyX9_ok, nmX9⟩
theorem lk_tabk0 : ∀ ci, ci < 10 → ∀ f, f < lk_nf ci → (lk_fk ci f).1 = 0 → parseFieldDescriptor (lk_T0 ci f).2.2.1 = some .int := by decide +kernel
theorem lk_tabk5 : ∀ ci, ci < 10 → ∀ f, f < lk_nf ci → (lk_fk ci f).1 = 5 → parseFieldDescriptor (lk_T0 ci f).2.2.1 = some .boolean := by decide +kernel
theorem lk_tabk1 : ∀ ci, ci < 10 → ∀ f, f < lk_nf ci → (lk_fk ci f).1 = 1 → parseFieldDescriptor (lk_T0 ci f).2.2.1 = some .long := by decide +kernel
theorem lk_tabkf : ∀ ci, ci < 10 → ∀ f, f < lk_nf ci → (lk_fk ci f).1 = 0 ∨ (lk_fk ci f).1 = 5 ∨ (lk_fk ci f).1 = 1 → (lk_T0 ci f).2.2.2 = false := by decide +kernel
theorem lk_tabk (ci : Nat) (hc : ci < 10) (f : Nat) (hf : f < lk_nf ci) : ((lk_fk ci f).1 = 0 → parseFieldDescriptor (lk_T0 ci f).2.2.1 = some .int ∧ (lk_T0 ci f).2.2.2 = false) ∧ ((lk_fk ci f).1 = 5 → parseFieldDescriptor (lk_T0 ci f).2.2.1 = some .boolean ∧ (lk_T0 ci f).2.2.2 = false) ∧ ((lk_fk ci f).1 = 1 → parseFieldDescriptor (lk_T0 ci f).2.2.1 = some .long ∧ (lk_T0 ci f).2.2.2 = false) :=
  ⟨fun h => ⟨lk_tabk0 ci hc f hf h, lk_tabkf ci hc f hf (Or.inl h)⟩, fun h => ⟨lk_tabk5 ci hc f hf h, lk_tabkf ci hc f hf (Or.inr (Or.inl h))⟩, fun h => ⟨lk_tabk1 ci hc f hf h, lk_tabkf ci hc f hf (Or.inr (Or.inr h))⟩⟩
theorem lk_fk_lt {ci f : Nat} (h : (lk_fk ci f).1 ≠ 9) : f < lk_nf ci := by
  rcases Nat.lt_or_ge f (lk_nf ci) with q | q
  · exact q
  · refine absurd ?_ h
    unfold lk_fk
    rw [List.getD_eq_getElem?_getD, List.getElem?_eq_none q]
    rfl
theorem lk_AW_good : ∀ w ∈ lk_AW, (w.onTables && w.keeps) = true ∨ ∃ ty, w = .arrayClass ty := fun _ hw => good_of_word (List.mem_filter.mp hw).2
theorem lk_good {M M' : lk_M} (hc : Cond.code M'.1 M'.2.1 M'.2.2.1 M'.2.2.2 ∈ lk_AW) : GoodIn (lk_wd M) (lk_wd M') := by
  intro w hw
  have hm : w ∈ lk_AW := by
    rcases List.mem_cons.mp hw with h | h
    · rw [h]; exact hc
    · exact h
  exact ⟨List.mem_cons_of_mem _ hm, lk_AW_good w hm⟩
theorem lk_n01 {v : Int32} (h : v = 0 ∨ v = 1) : narrow .boolean (.int v) = .int v := by rcases h with rfl | rfl <;> rfl
theorem lk_f01 {v : Int32} (h : v = 0 ∨ v = 1) : fits .boolean (.int v) = true := by rcases h with rfl | rfl <;> rfl
theorem lk_r01 {v : Int32} (h : v = 0 ∨ v = 1) : vp_nar .boolean v = v := by rcases h with rfl | rfl <;> rfl
/-! locals -/
def lk_get : List (Nat × lk_V) → Nat → Option lk_V
  | [], _ => none
  | q :: t, i => match Nat.beq q.1 i with
    | true => some q.2
    | false => lk_get t i
def lk_ins : List (Nat × lk_V) → Nat → lk_V → List (Nat × lk_V)
  | [], i, v => [(i, v)]
  | q :: t, i, v => match Nat.ble q.1 i with
    | true => q :: lk_ins t i v
    | false => (i, v) :: q :: t
def lk_st1 (L : List (Nat × lk_V)) (i : Nat) (v : lk_V) : List (Nat × lk_V) := lk_ins (L.filter (fun q => !(q.1 == i) && !(q.1 + 1 == i && lk_cat q.2 == 2))) i v
def lk_st2 (L : List (Nat × lk_V)) (i : Nat) (v : lk_V) : List (Nat × lk_V) := lk_ins (L.filter (fun q => !(q.1 == i) && (!(q.1 == i + 1) && !(q.1 + 1 == i && lk_cat q.2 == 2)))) i v
theorem lk_get_mem : ∀ {L : List (Nat × lk_V)} {i : Nat} {v : lk_V}, lk_get L i = some v → (i, v) ∈ L
  | [], _, _, h => by cases h
  | q :: t, i, v, h => by
    unfold lk_get at h
    split at h
    · rename_i hb
      have := Nat.eq_of_beq_eq_true hb
      cases h
      exact List.mem_cons.mpr (Or.inl (by rw [← this]))
    · exact List.mem_cons_of_mem _ (lk_get_mem h)
theorem lk_ins_mem : ∀ {L : List (Nat × lk_V)} {i : Nat} {v : lk_V} {q : Nat × lk_V}, q ∈ lk_ins L i v → q = (i, v) ∨ q ∈ L
  | [], i, v, q, h => by
    rcases List.mem_cons.mp h with h | h
    · exact Or.inl h
    · cases h
  | a :: t, i, v, q, h => by
    unfold lk_ins at h
    split at h
    · rcases List.mem_cons.mp h with h | h
      · exact Or.inr (by rw [h]; exact List.mem_cons_self)
      · rcases lk_ins_mem h with h | h
        · exact Or.inl h
        · exact Or.inr (List.mem_cons_of_mem _ h)
    · rcases List.mem_cons.mp h with h | h
      · exact Or.inl h
      · exact Or.inr h
abbrev lk_lc (X : lk_G) (L : List (Nat × lk_V)) : List (Nat × Value) := L.map (fun q => (q.1, lk_c X.1 q.2))
theorem lk_at_l {X : lk_G} {ls : Array Slot} {n : Nat} {L : List (Nat × lk_V)} (h : lv_has ls n (lk_lc X L)) {i : Nat} {v : lk_V} (hg : lk_get L i = some v) : ls[i]? = some (.val (lk_c X.1 v)) :=
  h.2.2 (i, lk_c X.1 v) (List.mem_map.mpr ⟨(i, v), lk_get_mem hg, rfl⟩)
theorem lk_st1_has {X : lk_G} {ls : Array Slot} {n : Nat} {L : List (Nat × lk_V)} {i : Nat} {v : lk_V} (h : lv_has ls n ((i, lk_c X.1 v) :: (lk_lc X L).filter (fun q => !(q.1 == i) && !(q.1 + 1 == i && q.2.category == 2)))) : lv_has ls n (lk_lc X (lk_st1 L i v)) := by
  refine ⟨h.1, h.2.1, fun q hq => h.2.2 q ?_⟩
  obtain ⟨r, h1, rfl⟩ := List.mem_map.mp hq
  rcases lk_ins_mem h1 with h2 | h2
  · rw [h2]; exact List.mem_cons_self
  · obtain ⟨h3, h4⟩ := List.mem_filter.mp h2
    refine List.mem_cons_of_mem _ (List.mem_filter.mpr ⟨List.mem_map.mpr ⟨r, h3, rfl⟩, ?_⟩)
    simpa [lk_c_cat] using h4
theorem lk_st2_has {X : lk_G} {ls : Array Slot} {n : Nat} {L : List (Nat × lk_V)} {i : Nat} {v : lk_V} (h : lv_has ls n ((i, lk_c X.1 v) :: (lk_lc X L).filter (fun q => !(q.1 == i) && (!(q.1 == i + 1) && !(q.1 + 1 == i && q.2.category == 2))))) : lv_has ls n (lk_lc X (lk_st2 L i v)) := by
  refine ⟨h.1, h.2.1, fun q hq => h.2.2 q ?_⟩
  obtain ⟨r, h1, rfl⟩ := List.mem_map.mp hq
  rcases lk_ins_mem h1 with h2 | h2
  · rw [h2]; exact List.mem_cons_self
  · obtain ⟨h3, h4⟩ := List.mem_filter.mp h2
    refine List.mem_cons_of_mem _ (List.mem_filter.mpr ⟨List.mem_map.mpr ⟨r, h3, rfl⟩, ?_⟩)
    simpa [lk_c_cat] using h4
def lk_pick (L : List (Nat × lk_V)) (is : List Nat) : List (Nat × lk_V) := is.filterMap (fun i => (lk_get L i).map (fun v => (i, v)))
section LKR
variable {l : Launch} {X : lk_G} {M : lk_M} {d pc : Nat} {L : List (Nat × lk_V)} {S : List lk_V} {σ : lk_N} {τ : lk_T} {Q : lk_Q}
/-- fewer locals -/
theorem lk_sub {L' : List (Nat × lk_V)} (is : List Nat) (hL : lk_pick L is = L') (k : lk_W l X M d pc L' S σ τ Q) : lk_W l X M d pc L S σ τ Q := by
  intro p e s m args below meth c H locs ls C hP hD hS hl
  refine k p e s m args below meth c H locs ls C hP hD hS ⟨hl.1, hl.2.1, fun q hq => hl.2.2 q ?_⟩
  subst hL
  obtain ⟨r, h1, rfl⟩ := List.mem_map.mp hq
  obtain ⟨i, -, h2⟩ := List.mem_filterMap.mp h1
  cases hg : lk_get L i with
  | none => rw [hg] at h2; cases h2
  | some v =>
    rw [hg] at h2
    cases h2
    exact List.mem_map.mpr ⟨(i, v), lk_get_mem hg, rfl⟩
theorem lk_cast {pc' : Nat} {L' : List (Nat × lk_V)} {S' : List lk_V} (h1 : pc' = pc) (h2 : L' = L) (h3 : S' = S) (k : lk_W l X M d pc' L' S' σ τ Q) : lk_W l X M d pc L S σ τ Q := by subst h1; subst h2; subst h3; exact k
theorem lk_mono {Q' : lk_Q} (h : lk_W l X M d pc L S σ τ Q') (hQ : ∀ r a b, Q' r a b → Q r a b) : lk_W l X M d pc L S σ τ Q := by
  intro p e s m args below meth c H locs ls C hP hD hS hl T hT X0
  obtain ⟨t, h1, o, h2, h3, ⟨⟨r, a, b, q1, q2, q3⟩, q4⟩, h5⟩ := h p e s m args below meth c H locs ls C hP hD hS hl T hT X0
  exact ⟨t, h1, o, h2, h3, ⟨⟨r, a, b, q1, hQ r a b q2, q3⟩, q4⟩, h5⟩
theorem lk_iconst {n : Int} {v : Int32} (hd : decode M.2.1 pc = .ok (.iconst n, 1)) (hv : Int32.ofInt n = v) (k : lk_W l X M d (pc + 1) L (lk_vi v :: S) σ τ Q) : lk_W l X M d pc L S σ τ Q :=
  fun p e s m args below meth c H locs ls C hP hD hS hl => lv_iconst C.1 C.2.1 hd hv (k p e s m args below meth c H locs ls C hP hD hS hl)
theorem lk_bipush {n : Int} {v : Int32} (hd : decode M.2.1 pc = .ok (.bipush n, 2)) (hv : (Int8.ofInt n).toInt32 = v) (k : lk_W l X M d (pc + 2) L (lk_vi v :: S) σ τ Q) : lk_W l X M d pc L S σ τ Q :=
  fun p e s m args below meth c H locs ls C hP hD hS hl => lv_bipush C.1 C.2.1 hd hv (k p e s m args below meth c H locs ls C hP hD hS hl)
theorem lk_sipush {n : Int} {v : Int32} (hd : decode M.2.1 pc = .ok (.sipush n, 3)) (hv : (Int16.ofInt n).toInt32 = v) (k : lk_W l X M d (pc + 3) L (lk_vi v :: S) σ τ Q) : lk_W l X M d pc L S σ τ Q :=
  fun p e s m args below meth c H locs ls C hP hD hS hl => lv_sipush C.1 C.2.1 hd hv (k p e s m args below meth c H locs ls C hP hD hS hl)
theorem lk_lconst {n : Fin 2} {v : Int64} (hd : decode M.2.1 pc = .ok (.lconst n, 1)) (hv : Int64.ofNat (n : Nat) = v) (k : lk_W l X M d (pc + 1) L (lk_vl v :: S) σ τ Q) : lk_W l X M d pc L S σ τ Q :=
  fun p e s m args below meth c H locs ls C hP hD hS hl => lv_lconst C.1 C.2.1 hd hv (k p e s m args below meth c H locs ls C hP hD hS hl)
theorem lk_ldc {idx : Nat} {v : Int32} (hd : decode M.2.1 pc = .ok (.ldc idx, 2)) (hw : Cond.constant M.1.cls idx v ∈ lk_AW) (k : lk_W l X M d (pc + 2) L (lk_vi v :: S) σ τ Q) : lk_W l X M d pc L S σ τ Q :=
  fun p e s m args below meth c H locs ls C hP hD hS hl => lv_ldc C.1 C.2.1 C.2.2.2.2.1 (C.2.2.2.2.2.1 _ (List.mem_cons_of_mem _ hw)) hd (k p e s m args below meth c H locs ls C hP hD hS hl)
theorem lk_ldc2 {idx : Nat} {v : Int64} (hd : decode M.2.1 pc = .ok (.ldc2_w idx, 3)) (hw : Cond.constantLong M.1.cls idx v ∈ lk_AW) (k : lk_W l X M d (pc + 3) L (lk_vl v :: S) σ τ Q) : lk_W l X M d pc L S σ τ Q :=
  fun p e s m args below meth c H locs ls C hP hD hS hl => lv_ldc2 C.1 C.2.1 C.2.2.2.2.1 (C.2.2.2.2.2.1 _ (List.mem_cons_of_mem _ hw)) hd (k p e s m args below meth c H locs ls C hP hD hS hl)
theorem lk_iload_n {k4 : Fin 4} {i : Nat} {x : Int32} (hd : decode M.2.1 pc = .ok (.iload_n k4, 1)) (hi : (k4 : Nat) = i) (hg : lk_get L i = some (lk_vi x)) (k : lk_W l X M d (pc + 1) L (lk_vi x :: S) σ τ Q) : lk_W l X M d pc L S σ τ Q :=
  fun p e s m args below meth c H locs ls C hP hD hS hl => lv_iload_n C.1 C.2.1 hd hi (lk_at_l hl hg) (k p e s m args below meth c H locs ls C hP hD hS hl)
theorem lk_iload {i : Nat} {x : Int32} (hd : decode M.2.1 pc = .ok (.iload i, 2)) (hg : lk_get L i = some (lk_vi x)) (k : lk_W l X M d (pc + 2) L (lk_vi x :: S) σ τ Q) : lk_W l X M d pc L S σ τ Q :=
  fun p e s m args below meth c H locs ls C hP hD hS hl => lv_iload C.1 C.2.1 hd (lk_at_l hl hg) (k p e s m args below meth c H locs ls C hP hD hS hl)
theorem lk_lload_n {k4 : Fin 4} {i : Nat} {x : Int64} (hd : decode M.2.1 pc = .ok (.lload_n k4, 1)) (hi : (k4 : Nat) = i) (hg : lk_get L i = some (lk_vl x)) (k : lk_W l X M d (pc + 1) L (lk_vl x :: S) σ τ Q) : lk_W l X M d pc L S σ τ Q :=
  fun p e s m args below meth c H locs ls C hP hD hS hl => lv_lload_n C.1 C.2.1 hd hi (lk_at_l hl hg) (k p e s m args below meth c H locs ls C hP hD hS hl)
theorem lk_lload {i : Nat} {x : Int64} (hd : decode M.2.1 pc = .ok (.lload i, 2)) (hg : lk_get L i = some (lk_vl x)) (k : lk_W l X M d (pc + 2) L (lk_vl x :: S) σ τ Q) : lk_W l X M d pc L S σ τ Q :=
  fun p e s m args below meth c H locs ls C hP hD hS hl => lv_lload C.1 C.2.1 hd (lk_at_l hl hg) (k p e s m args below meth c H locs ls C hP hD hS hl)
theorem lk_aload_n {k4 : Fin 4} {i o f : Nat} (hd : decode M.2.1 pc = .ok (.aload_n k4, 1)) (hi : (k4 : Nat) = i) (hg : lk_get L i = some (lk_vr o f)) (k : lk_W l X M d (pc + 1) L (lk_vr o f :: S) σ τ Q) : lk_W l X M d pc L S σ τ Q :=
  fun p e s m args below meth c H locs ls C hP hD hS hl => lv_aload_n C.1 C.2.1 hd hi (lk_at_l hl hg) (k p e s m args below meth c H locs ls C hP hD hS hl)
theorem lk_aload {i o f : Nat} (hd : decode M.2.1 pc = .ok (.aload i, 2)) (hg : lk_get L i = some (lk_vr o f)) (k : lk_W l X M d (pc + 2) L (lk_vr o f :: S) σ τ Q) : lk_W l X M d pc L S σ τ Q :=
  fun p e s m args below meth c H locs ls C hP hD hS hl => lv_aload C.1 C.2.1 hd (lk_at_l hl hg) (k p e s m args below meth c H locs ls C hP hD hS hl)
theorem lk_istore_n {k4 : Fin 4} {i : Nat} {x : Int32} {L' : List (Nat × lk_V)} (hd : decode M.2.1 pc = .ok (.istore_n k4, 1)) (hi : (k4 : Nat) = i) (hn : i < M.2.2.1) (hL : lk_st1 L i (lk_vi x) = L') (k : lk_W l X M d (pc + 1) L' S σ τ Q) : lk_W l X M d pc L (lk_vi x :: S) σ τ Q :=
  fun p e s m args below meth c H locs ls C hP hD hS hl => lv_istore_n C.1 C.2.1 hd hi hl hn rfl (fun ls' hl' => k p e s m args below meth c H locs ls' C hP hD hS (by rw [← hL]; exact lk_st1_has hl'))
theorem lk_istore {i : Nat} {x : Int32} {L' : List (Nat × lk_V)} (hd : decode M.2.1 pc = .ok (.istore i, 2)) (hn : i < M.2.2.1) (hL : lk_st1 L i (lk_vi x) = L') (k : lk_W l X M d (pc + 2) L' S σ τ Q) : lk_W l X M d pc L (lk_vi x :: S) σ τ Q :=
  fun p e s m args below meth c H locs ls C hP hD hS hl => lv_istore C.1 C.2.1 hd hl hn rfl (fun ls' hl' => k p e s m args below meth c H locs ls' C hP hD hS (by rw [← hL]; exact lk_st1_has hl'))
theorem lk_lstore_n {k4 : Fin 4} {i : Nat} {x : Int64} {L' : List (Nat × lk_V)} (hd : decode M.2.1 pc = .ok (.lstore_n k4, 1)) (hi : (k4 : Nat) = i) (hn : i + 1 < M.2.2.1) (hL : lk_st2 L i (lk_vl x) = L') (k : lk_W l X M d (pc + 1) L' S σ τ Q) : lk_W l X M d pc L (lk_vl x :: S) σ τ Q :=
  fun p e s m args below meth c H locs ls C hP hD hS hl => lv_lstore_n C.1 C.2.1 hd hi hl hn rfl (fun ls' hl' => k p e s m args below meth c H locs ls' C hP hD hS (by rw [← hL]; exact lk_st2_has hl'))
theorem lk_lstore {i : Nat} {x : Int64} {L' : List (Nat × lk_V)} (hd : decode M.2.1 pc = .ok (.lstore i, 2)) (hn : i + 1 < M.2.2.1) (hL : lk_st2 L i (lk_vl x) = L') (k : lk_W l X M d (pc + 2) L' S σ τ Q) : lk_W l X M d pc L (lk_vl x :: S) σ τ Q :=
  fun p e s m args below meth c H locs ls C hP hD hS hl => lv_lstore C.1 C.2.1 hd hl hn rfl (fun ls' hl' => k p e s m args below meth c H locs ls' C hP hD hS (by rw [← hL]; exact lk_st2_has hl'))
theorem lk_astore_n {k4 : Fin 4} {i o f : Nat} {L' : List (Nat × lk_V)} (hd : decode M.2.1 pc = .ok (.astore_n k4, 1)) (hi : (k4 : Nat) = i) (hn : i < M.2.2.1) (hL : lk_st1 L i (lk_vr o f) = L') (k : lk_W l X M d (pc + 1) L' S σ τ Q) : lk_W l X M d pc L (lk_vr o f :: S) σ τ Q :=
  fun p e s m args below meth c H locs ls C hP hD hS hl => lv_astore_n C.1 C.2.1 hd hi hl hn rfl (fun ls' hl' => k p e s m args below meth c H locs ls' C hP hD hS (by rw [← hL]; exact lk_st1_has (v := lk_vr o f) hl'))
theorem lk_iinc {i : Nat} {n : Int} {x v : Int32} {L' : List (Nat × lk_V)} (hd : decode M.2.1 pc = .ok (.iinc i n, 3)) (hg : lk_get L i = some (lk_vi x)) (hv : x + Int32.ofInt n = v) (hn : i < M.2.2.1) (hL : lk_st1 L i (lk_vi v) = L') (k : lk_W l X M d (pc + 3) L' S σ τ Q) : lk_W l X M d pc L S σ τ Q := by
  intro p e s m args below meth c H locs ls C hP hD hS hl
  obtain ⟨j, hj⟩ := List.getElem?_of_mem (List.mem_map.mpr ⟨(i, lk_vi x), lk_get_mem hg, rfl⟩ : (i, Value.int x) ∈ lk_lc X L)
  exact lv_iinc C.1 C.2.1 hd hl hj hv hn rfl (fun ls' hl' => k p e s m args below meth c H locs ls' C hP hD hS (by rw [← hL]; exact lk_st1_has (v := lk_vi v) hl'))
theorem lk_iadd {x y : Int32} (hd : decode M.2.1 pc = .ok (.iadd, 1)) (k : lk_W l X M d (pc + 1) L (lk_vi (x + y) :: S) σ τ Q) : lk_W l X M d pc L (lk_vi y :: lk_vi x :: S) σ τ Q :=
  fun p e s m args below meth c H locs ls C hP hD hS hl => lv_iadd C.1 C.2.1 hd (k p e s m args below meth c H locs ls C hP hD hS hl)
theorem lk_isub {x y : Int32} (hd : decode M.2.1 pc = .ok (.isub, 1)) (k : lk_W l X M d (pc + 1) L (lk_vi (x - y) :: S) σ τ Q) : lk_W l X M d pc L (lk_vi y :: lk_vi x :: S) σ τ Q :=
  fun p e s m args below meth c H locs ls C hP hD hS hl => lv_isub C.1 C.2.1 hd (k p e s m args below meth c H locs ls C hP hD hS hl)
theorem lk_imul {x y : Int32} (hd : decode M.2.1 pc = .ok (.imul, 1)) (k : lk_W l X M d (pc + 1) L (lk_vi (x * y) :: S) σ τ Q) : lk_W l X M d pc L (lk_vi y :: lk_vi x :: S) σ τ Q :=
  fun p e s m args below meth c H locs ls C hP hD hS hl => lv_imul C.1 C.2.1 hd (k p e s m args below meth c H locs ls C hP hD hS hl)
theorem lk_iand {x y : Int32} (hd : decode M.2.1 pc = .ok (.iand, 1)) (k : lk_W l X M d (pc + 1) L (lk_vi (x &&& y) :: S) σ τ Q) : lk_W l X M d pc L (lk_vi y :: lk_vi x :: S) σ τ Q :=
  fun p e s m args below meth c H locs ls C hP hD hS hl => lv_iand C.1 C.2.1 hd (k p e s m args below meth c H locs ls C hP hD hS hl)
theorem lk_ishl {x y : Int32} (hd : decode M.2.1 pc = .ok (.ishl, 1)) (k : lk_W l X M d (pc + 1) L (lk_vi (x <<< (y &&& 31)) :: S) σ τ Q) : lk_W l X M d pc L (lk_vi y :: lk_vi x :: S) σ τ Q :=
  fun p e s m args below meth c H locs ls C hP hD hS hl => lv_ishl C.1 C.2.1 hd (k p e s m args below meth c H locs ls C hP hD hS hl)
theorem lk_ishr {x y : Int32} (hd : decode M.2.1 pc = .ok (.ishr, 1)) (k : lk_W l X M d (pc + 1) L (lk_vi (x >>> (y &&& 31)) :: S) σ τ Q) : lk_W l X M d pc L (lk_vi y :: lk_vi x :: S) σ τ Q :=
  fun p e s m args below meth c H locs ls C hP hD hS hl => lv_ishr C.1 C.2.1 hd (k p e s m args below meth c H locs ls C hP hD hS hl)
theorem lk_idiv {x y : Int32} (hd : decode M.2.1 pc = .ok (.idiv, 1)) (hne : ¬ y = 0) (k : lk_W l X M d (pc + 1) L (lk_vi (x / y) :: S) σ τ Q) : lk_W l X M d pc L (lk_vi y :: lk_vi x :: S) σ τ Q :=
  fun p e s m args below meth c H locs ls C hP hD hS hl => lv_idiv C.1 C.2.1 hd hne (k p e s m args below meth c H locs ls C hP hD hS hl)
theorem lk_irem {x y : Int32} (hd : decode M.2.1 pc = .ok (.irem, 1)) (hne : ¬ y = 0) (k : lk_W l X M d (pc + 1) L (lk_vi (x - x / y * y) :: S) σ τ Q) : lk_W l X M d pc L (lk_vi y :: lk_vi x :: S) σ τ Q :=
  fun p e s m args below meth c H locs ls C hP hD hS hl => lv_irem C.1 C.2.1 hd hne (k p e s m args below meth c H locs ls C hP hD hS hl)
theorem lk_ineg {x : Int32} (hd : decode M.2.1 pc = .ok (.ineg, 1)) (k : lk_W l X M d (pc + 1) L (lk_vi (0 - x) :: S) σ τ Q) : lk_W l X M d pc L (lk_vi x :: S) σ τ Q :=
  fun p e s m args below meth c H locs ls C hP hD hS hl => lv_ineg C.1 C.2.1 hd (k p e s m args below meth c H locs ls C hP hD hS hl)
theorem lk_ladd {x y : Int64} (hd : decode M.2.1 pc = .ok (.ladd, 1)) (k : lk_W l X M d (pc + 1) L (lk_vl (x + y) :: S) σ τ Q) : lk_W l X M d pc L (lk_vl y :: lk_vl x :: S) σ τ Q :=
  fun p e s m args below meth c H locs ls C hP hD hS hl => lv_ladd C.1 C.2.1 hd (k p e s m args below meth c H locs ls C hP hD hS hl)
theorem lk_lmul {x y : Int64} (hd : decode M.2.1 pc = .ok (.lmul, 1)) (k : lk_W l X M d (pc + 1) L (lk_vl (x * y) :: S) σ τ Q) : lk_W l X M d pc L (lk_vl y :: lk_vl x :: S) σ τ Q :=
  fun p e s m args below meth c H locs ls C hP hD hS hl => lv_lmul C.1 C.2.1 hd (k p e s m args below meth c H locs ls C hP hD hS hl)
theorem lk_land {x y : Int64} (hd : decode M.2.1 pc = .ok (.land, 1)) (k : lk_W l X M d (pc + 1) L (lk_vl (x &&& y) :: S) σ τ Q) : lk_W l X M d pc L (lk_vl y :: lk_vl x :: S) σ τ Q :=
  fun p e s m args below meth c H locs ls C hP hD hS hl => lv_land C.1 C.2.1 hd (k p e s m args below meth c H locs ls C hP hD hS hl)
theorem lk_lxor {x y : Int64} (hd : decode M.2.1 pc = .ok (.lxor, 1)) (k : lk_W l X M d (pc + 1) L (lk_vl (x ^^^ y) :: S) σ τ Q) : lk_W l X M d pc L (lk_vl y :: lk_vl x :: S) σ τ Q :=
  fun p e s m args below meth c H locs ls C hP hD hS hl => lv_lxor C.1 C.2.1 hd (k p e s m args below meth c H locs ls C hP hD hS hl)
theorem lk_ldiv {x y : Int64} (hd : decode M.2.1 pc = .ok (.ldiv, 1)) (hne : ¬ y = 0) (k : lk_W l X M d (pc + 1) L (lk_vl (x / y) :: S) σ τ Q) : lk_W l X M d pc L (lk_vl y :: lk_vl x :: S) σ τ Q :=
  fun p e s m args below meth c H locs ls C hP hD hS hl => lv_ldiv C.1 C.2.1 hd hne (k p e s m args below meth c H locs ls C hP hD hS hl)
theorem lk_lcmp {x y : Int64} (hd : decode M.2.1 pc = .ok (.lcmp, 1)) (k : lk_W l X M d (pc + 1) L (lk_vi (lg_cmp x y) :: S) σ τ Q) : lk_W l X M d pc L (lk_vl y :: lk_vl x :: S) σ τ Q :=
  fun p e s m args below meth c H locs ls C hP hD hS hl => W.lcmp C.1 C.2.1 hd (k p e s m args below meth c H locs ls C hP hD hS hl)
theorem lk_dup {v : lk_V} (hd : decode M.2.1 pc = .ok (.dup, 1)) (hv : lk_cat v = 1) (k : lk_W l X M d (pc + 1) L (v :: v :: S) σ τ Q) : lk_W l X M d pc L (v :: S) σ τ Q :=
  fun p e s m args below meth c H locs ls C hP hD hS hl => lv_dup C.1 C.2.1 hd (by rw [lk_c_cat]; exact hv) (k p e s m args below meth c H locs ls C hP hD hS hl)
theorem lk_pop {v : lk_V} (hd : decode M.2.1 pc = .ok (.pop, 1)) (hv : lk_cat v = 1) (k : lk_W l X M d (pc + 1) L S σ τ Q) : lk_W l X M d pc L (v :: S) σ τ Q :=
  fun p e s m args below meth c H locs ls C hP hD hS hl => lv_pop C.1 C.2.1 hd (by rw [lk_c_cat]; exact hv) (k p e s m args below meth c H locs ls C hP hD hS hl)
theorem lk_dup2 {v w : lk_V} (hd : decode M.2.1 pc = .ok (.dup2, 1)) (hv : lk_cat v = 1) (hw : lk_cat w = 1) (k : lk_W l X M d (pc + 1) L (v :: w :: v :: w :: S) σ τ Q) : lk_W l X M d pc L (v :: w :: S) σ τ Q :=
  fun p e s m args below meth c H locs ls C hP hD hS hl => lv_dup2_11 C.1 C.2.1 hd (by rw [lk_c_cat]; exact hv) (by rw [lk_c_cat]; exact hw) (k p e s m args below meth c H locs ls C hP hD hS hl)
theorem lk_dup_x1 {v w : lk_V} (hd : decode M.2.1 pc = .ok (.dup_x1, 1)) (hv : lk_cat v = 1) (hw : lk_cat w = 1) (k : lk_W l X M d (pc + 1) L (v :: w :: v :: S) σ τ Q) : lk_W l X M d pc L (v :: w :: S) σ τ Q :=
  fun p e s m args below meth c H locs ls C hP hD hS hl => lv_dup_x1 C.1 C.2.1 hd (by rw [lk_c_cat]; exact hv) (by rw [lk_c_cat]; exact hw) (k p e s m args below meth c H locs ls C hP hD hS hl)
theorem lk_dup_x2 {v w u : lk_V} (hd : decode M.2.1 pc = .ok (.dup_x2, 1)) (hv : lk_cat v = 1) (hw : lk_cat w = 1) (hu : lk_cat u = 1) (k : lk_W l X M d (pc + 1) L (v :: w :: u :: v :: S) σ τ Q) : lk_W l X M d pc L (v :: w :: u :: S) σ τ Q :=
  fun p e s m args below meth c H locs ls C hP hD hS hl => lv_dup_x2 C.1 C.2.1 hd (by rw [lk_c_cat]; exact hv) (by rw [lk_c_cat]; exact hw) (by rw [lk_c_cat]; exact hu) (k p e s m args below meth c H locs ls C hP hD hS hl)
theorem lk_goto {off : Int} {tgt : Nat} (hd : decode M.2.1 pc = .ok (.goto off, 3)) (ht : (pc : Int) + off = (tgt : Int)) (k : lk_W l X M d tgt L S σ τ Q) : lk_W l X M d pc L S σ τ Q :=
  fun p e s m args below meth c H locs ls C hP hD hS hl => lv_goto C.1 C.2.1 hd ht (k p e s m args below meth c H locs ls C hP hD hS hl)
theorem lk_if_eq {x : Int32} {off : Int} {tgt : Nat} (hd : decode M.2.1 pc = .ok (.ifCond .eq off, 3)) (ht : (pc : Int) + off = (tgt : Int)) (kt : x = 0 → lk_W l X M d tgt L S σ τ Q) (kf : ¬ x = 0 → lk_W l X M d (pc + 3) L S σ τ Q) : lk_W l X M d pc L (lk_vi x :: S) σ τ Q :=
  fun p e s m args below meth c H locs ls C hP hD hS hl => lv_if_eq C.1 C.2.1 hd ht (fun z => kt z p e s m args below meth c H locs ls C hP hD hS hl) (fun z => kf z p e s m args below meth c H locs ls C hP hD hS hl)
theorem lk_icmp_eq {x y : Int32} {off : Int} {tgt : Nat} (hd : decode M.2.1 pc = .ok (.if_icmp .eq off, 3)) (ht : (pc : Int) + off = (tgt : Int)) (kt : x = y → lk_W l X M d tgt L S σ τ Q) (kf : ¬ x = y → lk_W l X M d (pc + 3) L S σ τ Q) : lk_W l X M d pc L (lk_vi y :: lk_vi x :: S) σ τ Q :=
  fun p e s m args below meth c H locs ls C hP hD hS hl => lv_icmp_eq C.1 C.2.1 hd ht (fun z => kt z p e s m args below meth c H locs ls C hP hD hS hl) (fun z => kf z p e s m args below meth c H locs ls C hP hD hS hl)
theorem lk_if_ne {x : Int32} {off : Int} {tgt : Nat} (hd : decode M.2.1 pc = .ok (.ifCond .ne off, 3)) (ht : (pc : Int) + off = (tgt : Int)) (kt : ¬ x = 0 → lk_W l X M d tgt L S σ τ Q) (kf : x = 0 → lk_W l X M d (pc + 3) L S σ τ Q) : lk_W l X M d pc L (lk_vi x :: S) σ τ Q :=
  fun p e s m args below meth c H locs ls C hP hD hS hl => lv_if_ne C.1 C.2.1 hd ht (fun z => kt z p e s m args below meth c H locs ls C hP hD hS hl) (fun z => kf z p e s m args below meth c H locs ls C hP hD hS hl)
theorem lk_icmp_ne {x y : Int32} {off : Int} {tgt : Nat} (hd : decode M.2.1 pc = .ok (.if_icmp .ne off, 3)) (ht : (pc : Int) + off = (tgt : Int)) (kt : ¬ x = y → lk_W l X M d tgt L S σ τ Q) (kf : x = y → lk_W l X M d (pc + 3) L S σ τ Q) : lk_W l X M d pc L (lk_vi y :: lk_vi x :: S) σ τ Q :=
  fun p e s m args below meth c H locs ls C hP hD hS hl => lv_icmp_ne C.1 C.2.1 hd ht (fun z => kt z p e s m args below meth c H locs ls C hP hD hS hl) (fun z => kf z p e s m args below meth c H locs ls C hP hD hS hl)
theorem lk_if_lt {x : Int32} {off : Int} {tgt : Nat} (hd : decode M.2.1 pc = .ok (.ifCond .lt off, 3)) (ht : (pc : Int) + off = (tgt : Int)) (kt : x < 0 → lk_W l X M d tgt L S σ τ Q) (kf : ¬ x < 0 → lk_W l X M d (pc + 3) L S σ τ Q) : lk_W l X M d pc L (lk_vi x :: S) σ τ Q :=
  fun p e s m args below meth c H locs ls C hP hD hS hl => lv_if_lt C.1 C.2.1 hd ht (fun z => kt z p e s m args below meth c H locs ls C hP hD hS hl) (fun z => kf z p e s m args below meth c H locs ls C hP hD hS hl)
theorem lk_icmp_lt {x y : Int32} {off : Int} {tgt : Nat} (hd : decode M.2.1 pc = .ok (.if_icmp .lt off, 3)) (ht : (pc : Int) + off = (tgt : Int)) (kt : x < y → lk_W l X M d tgt L S σ τ Q) (kf : ¬ x < y → lk_W l X M d (pc + 3) L S σ τ Q) : lk_W l X M d pc L (lk_vi y :: lk_vi x :: S) σ τ Q :=
  fun p e s m args below meth c H locs ls C hP hD hS hl => lv_icmp_lt C.1 C.2.1 hd ht (fun z => kt z p e s m args below meth c H locs ls C hP hD hS hl) (fun z => kf z p e s m args below meth c H locs ls C hP hD hS hl)
theorem lk_if_ge {x : Int32} {off : Int} {tgt : Nat} (hd : decode M.2.1 pc = .ok (.ifCond .ge off, 3)) (ht : (pc : Int) + off = (tgt : Int)) (kt : 0 ≤ x → lk_W l X M d tgt L S σ τ Q) (kf : ¬ 0 ≤ x → lk_W l X M d (pc + 3) L S σ τ Q) : lk_W l X M d pc L (lk_vi x :: S) σ τ Q :=
  fun p e s m args below meth c H locs ls C hP hD hS hl => lv_if_ge C.1 C.2.1 hd ht (fun z => kt z p e s m args below meth c H locs ls C hP hD hS hl) (fun z => kf z p e s m args below meth c H locs ls C hP hD hS hl)
theorem lk_icmp_ge {x y : Int32} {off : Int} {tgt : Nat} (hd : decode M.2.1 pc = .ok (.if_icmp .ge off, 3)) (ht : (pc : Int) + off = (tgt : Int)) (kt : y ≤ x → lk_W l X M d tgt L S σ τ Q) (kf : ¬ y ≤ x → lk_W l X M d (pc + 3) L S σ τ Q) : lk_W l X M d pc L (lk_vi y :: lk_vi x :: S) σ τ Q :=
  fun p e s m args below meth c H locs ls C hP hD hS hl => lv_icmp_ge C.1 C.2.1 hd ht (fun z => kt z p e s m args below meth c H locs ls C hP hD hS hl) (fun z => kf z p e s m args below meth c H locs ls C hP hD hS hl)
theorem lk_if_gt {x : Int32} {off : Int} {tgt : Nat} (hd : decode M.2.1 pc = .ok (.ifCond .gt off, 3)) (ht : (pc : Int) + off = (tgt : Int)) (kt : 0 < x → lk_W l X M d tgt L S σ τ Q) (kf : ¬ 0 < x → lk_W l X M d (pc + 3) L S σ τ Q) : lk_W l X M d pc L (lk_vi x :: S) σ τ Q :=
  fun p e s m args below meth c H locs ls C hP hD hS hl => lv_if_gt C.1 C.2.1 hd ht (fun z => kt z p e s m args below meth c H locs ls C hP hD hS hl) (fun z => kf z p e s m args below meth c H locs ls C hP hD hS hl)
theorem lk_icmp_gt {x y : Int32} {off : Int} {tgt : Nat} (hd : decode M.2.1 pc = .ok (.if_icmp .gt off, 3)) (ht : (pc : Int) + off = (tgt : Int)) (kt : y < x → lk_W l X M d tgt L S σ τ Q) (kf : ¬ y < x → lk_W l X M d (pc + 3) L S σ τ Q) : lk_W l X M d pc L (lk_vi y :: lk_vi x :: S) σ τ Q :=
  fun p e s m args below meth c H locs ls C hP hD hS hl => lv_icmp_gt C.1 C.2.1 hd ht (fun z => kt z p e s m args below meth c H locs ls C hP hD hS hl) (fun z => kf z p e s m args below meth c H locs ls C hP hD hS hl)
theorem lk_if_le {x : Int32} {off : Int} {tgt : Nat} (hd : decode M.2.1 pc = .ok (.ifCond .le off, 3)) (ht : (pc : Int) + off = (tgt : Int)) (kt : x ≤ 0 → lk_W l X M d tgt L S σ τ Q) (kf : ¬ x ≤ 0 → lk_W l X M d (pc + 3) L S σ τ Q) : lk_W l X M d pc L (lk_vi x :: S) σ τ Q :=
  fun p e s m args below meth c H locs ls C hP hD hS hl => lv_if_le C.1 C.2.1 hd ht (fun z => kt z p e s m args below meth c H locs ls C hP hD hS hl) (fun z => kf z p e s m args below meth c H locs ls C hP hD hS hl)
theorem lk_icmp_le {x y : Int32} {off : Int} {tgt : Nat} (hd : decode M.2.1 pc = .ok (.if_icmp .le off, 3)) (ht : (pc : Int) + off = (tgt : Int)) (kt : x ≤ y → lk_W l X M d tgt L S σ τ Q) (kf : ¬ x ≤ y → lk_W l X M d (pc + 3) L S σ τ Q) : lk_W l X M d pc L (lk_vi y :: lk_vi x :: S) σ τ Q :=
  fun p e s m args below meth c H locs ls C hP hD hS hl => lv_icmp_le C.1 C.2.1 hd ht (fun z => kt z p e s m args below meth c H locs ls C hP hD hS hl) (fun z => kf z p e s m args below meth c H locs ls C hP hD hS hl)
/-! fields -/
theorem lk_getv {o f ci idx : Nat} {v : lk_V} (hd : decode M.2.1 pc = .ok (.getfield idx, 3)) (hc : lk_ko o = ci) (hl : lk_lk M.1.cls idx ci f ∈ lk_AW) (hci : ci < 10) (hf : f < lk_nf ci) (hv : lk_fv X.1 σ τ o f = lk_c X.1 v) (k : lk_W l X M d (pc + 3) L (v :: S) σ τ Q) : lk_W l X M d pc L (lk_vr o 0 :: S) σ τ Q := by
  subst hc
  intro p e s m args below meth c H locs ls C hP hD hS hl0
  obtain ⟨q0, hq, hw⟩ := lk_at (X := X) (σ := σ) (τ := τ) (lk_mem0 (lk_ko_lt rfl hci))
  obtain ⟨Cn, ty0, h1, h2, h3, h4⟩ := lk_tab (lk_ko o) hci
  have hts := C.2.2.2.2.2.1
  refine va_get C.1 C.2.1 hts (fun w hw => List.mem_cons_of_mem _ (h2 w hw)) C.2.2.2.2.1 C.2.2.2.2.2.2.2 hP q0 hw h1 f hf (hts _ (List.mem_cons_of_mem _ hl)) (fun _ h9 => h9) (v := lk_c X.1 v) ?_ hd (k p e s m args below meth c H locs ls C hP hD hS hl0)
  rw [List.getElem?_map, List.getElem?_range hf]
  exact congrArg some hv
theorem lk_getI {o f ci idx : Nat} (hd : decode M.2.1 pc = .ok (.getfield idx, 3)) (hc : lk_ko o = ci) (hl : lk_lk M.1.cls idx ci f ∈ lk_AW) (hci : ci < 10) (hk : (lk_fk ci f).1 = 0 ∨ (lk_fk ci f).1 = 5) (k : lk_W l X M d (pc + 3) L (lk_vi (σ o f 0) :: S) σ τ Q) : lk_W l X M d pc L (lk_vr o 0 :: S) σ τ Q :=
  lk_getv hd hc hl hci (lk_fk_lt (by omega)) (by subst hc; simp [lk_fv, hk, lk_c]) k
theorem lk_getL {o f ci idx : Nat} (hd : decode M.2.1 pc = .ok (.getfield idx, 3)) (hc : lk_ko o = ci) (hl : lk_lk M.1.cls idx ci f ∈ lk_AW) (hci : ci < 10) (hk : (lk_fk ci f).1 = 1) (k : lk_W l X M d (pc + 3) L (lk_vl (τ o f) :: S) σ τ Q) : lk_W l X M d pc L (lk_vr o 0 :: S) σ τ Q :=
  lk_getv hd hc hl hci (lk_fk_lt (by omega)) (by subst hc; simp [lk_fv, hk, lk_c]) k
theorem lk_getR {o f ci idx : Nat} (hd : decode M.2.1 pc = .ok (.getfield idx, 3)) (hc : lk_ko o = ci) (hl : lk_lk M.1.cls idx ci f ∈ lk_AW) (hci : ci < 10) (hk : (lk_fk ci f).1 = 2 ∨ (lk_fk ci f).1 = 3) (k : lk_W l X M d (pc + 3) L (lk_vr o (f + 1) :: S) σ τ Q) : lk_W l X M d pc L (lk_vr o 0 :: S) σ τ Q :=
  lk_getv hd hc hl hci (lk_fk_lt (by omega)) (by subst hc; rcases hk with hk | hk <;> simp [lk_fv, hk, lk_c]) k
theorem lk_getO {o f ci idx o' : Nat} (hd : decode M.2.1 pc = .ok (.getfield idx, 3)) (hc : lk_ko o = ci) (hl : lk_lk M.1.cls idx ci f ∈ lk_AW) (hci : ci < 10) (hk : (lk_fk ci f).1 = 4) (ho : lk_fo o f = o') (k : lk_W l X M d (pc + 3) L (lk_vr o' 0 :: S) σ τ Q) : lk_W l X M d pc L (lk_vr o 0 :: S) σ τ Q :=
  lk_getv hd hc hl hci (lk_fk_lt (by omega)) (by subst hc; subst ho; simp [lk_fv, hk, lk_c]) k
theorem lk_putI {o f ci idx : Nat} {v : Int32} (hd : decode M.2.1 pc = .ok (.putfield idx, 3)) (hc : lk_ko o = ci) (hl : lk_lk M.1.cls idx ci f ∈ lk_AW) (hci : ci < 10) (hk : (lk_fk ci f).1 = 0) (k : lk_W l X M d (pc + 3) L S (lk_up σ o f 0 v) τ Q) : lk_W l X M d pc L (lk_vi v :: lk_vr o 0 :: S) σ τ Q := by
  subst hc
  intro p e s m args below meth c H locs ls C hP hD hS hl0
  have hf : f < lk_nf (lk_ko o) := lk_fk_lt (by omega)
  obtain ⟨q0, hq, hw⟩ := lk_at (X := X) (σ := σ) (τ := τ) (lk_mem0 (lk_ko_lt rfl hci))
  obtain ⟨Cn, ty0, h1, h2, h3, h4⟩ := lk_tab (lk_ko o) hci
  obtain ⟨t1, t2⟩ := (lk_tabk (lk_ko o) hci f hf).1 hk
  obtain ⟨e1, e2⟩ := lk_e_putI (X := X) (σ := σ) (τ := τ) (v := v) (Or.inl hk) hf
  have hts := C.2.2.2.2.2.1
  refine va_put C.1 C.2.1 hts (fun w hw => List.mem_cons_of_mem _ (h2 w hw)) ty0 h3 h4 C.2.2.2.2.1 C.2.2.2.2.2.2.2 hP hD hS q0 hw h1 f hf (hts _ (List.mem_cons_of_mem _ hl)) (fun _ h9 => h9) t2 (ty := .int) (v := .int v) t1 rfl rfl (by simpa using hf) hd (fun H1 locs1 hP1 hD1 hS1 => ?_)
  rw [e1, lk_set hq e2] at hP1
  exact k p e s m args below meth c H1 locs1 ls C hP1 (lk_D_any hD) hS1 hl0
theorem lk_putZ {o f ci idx : Nat} {v : Int32} (hd : decode M.2.1 pc = .ok (.putfield idx, 3)) (hc : lk_ko o = ci) (hl : lk_lk M.1.cls idx ci f ∈ lk_AW) (hci : ci < 10) (hk : (lk_fk ci f).1 = 5) (hv : v = 0 ∨ v = 1) (k : lk_W l X M d (pc + 3) L S (lk_up σ o f 0 v) τ Q) : lk_W l X M d pc L (lk_vi v :: lk_vr o 0 :: S) σ τ Q := by
  subst hc
  intro p e s m args below meth c H locs ls C hP hD hS hl0
  have hf : f < lk_nf (lk_ko o) := lk_fk_lt (by omega)
  obtain ⟨q0, hq, hw⟩ := lk_at (X := X) (σ := σ) (τ := τ) (lk_mem0 (lk_ko_lt rfl hci))
  obtain ⟨Cn, ty0, h1, h2, h3, h4⟩ := lk_tab (lk_ko o) hci
  obtain ⟨t1, t2⟩ := (lk_tabk (lk_ko o) hci f hf).2.1 hk
  obtain ⟨e1, e2⟩ := lk_e_putI (X := X) (σ := σ) (τ := τ) (v := v) (Or.inr hk) hf
  have hts := C.2.2.2.2.2.1
  refine va_put C.1 C.2.1 hts (fun w hw => List.mem_cons_of_mem _ (h2 w hw)) ty0 h3 h4 C.2.2.2.2.1 C.2.2.2.2.2.2.2 hP hD hS q0 hw h1 f hf (hts _ (List.mem_cons_of_mem _ hl)) (fun _ h9 => h9) t2 (ty := .boolean) (v := .int v) t1 (lk_n01 hv) (lk_f01 hv) (by simpa using hf) hd (fun H1 locs1 hP1 hD1 hS1 => ?_)
  rw [e1, lk_set hq e2] at hP1
  exact k p e s m args below meth c H1 locs1 ls C hP1 (lk_D_any hD) hS1 hl0
theorem lk_putL {o f ci idx : Nat} {v : Int64} (hd : decode M.2.1 pc = .ok (.putfield idx, 3)) (hc : lk_ko o = ci) (hl : lk_lk M.1.cls idx ci f ∈ lk_AW) (hci : ci < 10) (hk : (lk_fk ci f).1 = 1) (k : lk_W l X M d (pc + 3) L S σ (lk_ut τ o f v) Q) : lk_W l X M d pc L (lk_vl v :: lk_vr o 0 :: S) σ τ Q := by
  subst hc
  intro p e s m args below meth c H locs ls C hP hD hS hl0
  have hf : f < lk_nf (lk_ko o) := lk_fk_lt (by omega)
  obtain ⟨q0, hq, hw⟩ := lk_at (X := X) (σ := σ) (τ := τ) (lk_mem0 (lk_ko_lt rfl hci))
  obtain ⟨Cn, ty0, h1, h2, h3, h4⟩ := lk_tab (lk_ko o) hci
  obtain ⟨t1, t2⟩ := (lk_tabk (lk_ko o) hci f hf).2.2 hk
  obtain ⟨e1, e2⟩ := lk_e_putL (X := X) (σ := σ) (τ := τ) (v := v) hk hf
  have hts := C.2.2.2.2.2.1
  refine va_put C.1 C.2.1 hts (fun w hw => List.mem_cons_of_mem _ (h2 w hw)) ty0 h3 h4 C.2.2.2.2.1 C.2.2.2.2.2.2.2 hP hD hS q0 hw h1 f hf (hts _ (List.mem_cons_of_mem _ hl)) (fun _ h9 => h9) t2 (ty := .long) (v := .long v) t1 rfl rfl (by simpa using hf) hd (fun H1 locs1 hP1 hD1 hS1 => ?_)
  rw [e1, lk_set hq e2] at hP1
  exact k p e s m args below meth c H1 locs1 ls C hP1 (lk_D_any hD) hS1 hl0
/-! rows of numbers -/
theorem lk_cellR {σ : lk_N} {τ : lk_T} {X : lk_G} {o f ci : Nat} (hc : lk_ko o = ci) (hk : (lk_fk ci f).1 = 2) : lk_e X σ τ (o, f + 1) = .inl (X.2.2.1, (lk_fk ci f).2, .inl (σ o f)) := by subst hc; simp [lk_e, hk]
theorem lk_cellZ {σ : lk_N} {τ : lk_T} {X : lk_G} {o f ci : Nat} (hc : lk_ko o = ci) (hk : (lk_fk ci f).1 = 3) : lk_e X σ τ (o, f + 1) = .inl (X.2.2.2, (lk_fk ci f).2, .inl (σ o f)) := by subst hc; simp [lk_e, hk]
theorem lk_iald {o f ci n : Nat} {i : Int32} (hd : decode M.2.1 pc = .ok (.iaload, 1)) (hc : lk_ko o = ci) (hci : ci < 10) (hk : lk_fk ci f = (2, n)) (hin : vp_in i n) (k : lk_W l X M d (pc + 1) L (lk_vi (σ o f i.toNatClampNeg) :: S) σ τ Q) : lk_W l X M d pc L (lk_vi i :: lk_vr o (f + 1) :: S) σ τ Q := by
  intro p e s m args below meth c H locs ls C hP hD hS hl0
  have hk1 : (lk_fk ci f).1 = 2 := by rw [hk]
  obtain ⟨q0, hq, hw⟩ := lk_at (X := X) (σ := σ) (τ := τ) (lk_memR (f := f) (lk_ko_lt hc hci) (Or.inl (by rw [hc]; exact hk1)))
  rw [lk_cellR hc hk1, hk] at hw
  exact va_iald C.1 C.2.1 C.2.2.2.2.2.2.2 hP q0 0 hw rfl hin hd (k p e s m args below meth c H locs ls C hP hD hS hl0)
theorem lk_zald {o f ci n : Nat} {i : Int32} (hd : decode M.2.1 pc = .ok (.baload, 1)) (hc : lk_ko o = ci) (hci : ci < 10) (hk : lk_fk ci f = (3, n)) (hin : vp_in i n) (k : lk_W l X M d (pc + 1) L (lk_vi (σ o f i.toNatClampNeg) :: S) σ τ Q) : lk_W l X M d pc L (lk_vi i :: lk_vr o (f + 1) :: S) σ τ Q := by
  intro p e s m args below meth c H locs ls C hP hD hS hl0
  have hk1 : (lk_fk ci f).1 = 3 := by rw [hk]
  obtain ⟨q0, hq, hw⟩ := lk_at (X := X) (σ := σ) (τ := τ) (lk_memR (f := f) (lk_ko_lt hc hci) (Or.inr (by rw [hc]; exact hk1)))
  rw [lk_cellZ hc hk1, hk] at hw
  exact va_zald C.1 C.2.1 C.2.2.2.2.2.2.2 hP q0 1 hw rfl hin hd (k p e s m args below meth c H locs ls C hP hD hS hl0)
theorem lk_iast {o f ci n : Nat} {i v : Int32} (hd : decode M.2.1 pc = .ok (.iastore, 1)) (hc : lk_ko o = ci) (hci : ci < 10) (hk : lk_fk ci f = (2, n)) (hin : vp_in i n) (k : lk_W l X M d (pc + 1) L S (lk_up σ o f i.toNatClampNeg v) τ Q) : lk_W l X M d pc L (lk_vi v :: lk_vi i :: lk_vr o (f + 1) :: S) σ τ Q := by
  intro p e s m args below meth c H locs ls C hP hD hS hl0
  have hk1 : (lk_fk (lk_ko o) f).1 = 2 := by rw [hc, hk]
  obtain ⟨q0, hq, hw⟩ := lk_at (X := X) (σ := σ) (τ := τ) (lk_memR (f := f) (lk_ko_lt hc hci) (Or.inl hk1))
  rw [lk_cellR hc (by rw [hk]), hk] at hw
  obtain ⟨e1, e2⟩ := lk_e_row (X := X) (τ := τ) (lk_up_row σ o f i.toNatClampNeg v) (Or.inl hk1)
  refine va_iast C.1 C.2.1 C.2.2.2.2.2.2.2 hP hD hS q0 0 hw rfl hin hd (fun H1 locs1 hP1 hD1 hS1 => ?_)
  rw [if_neg (by rw [hk1]; decide), hc, hk] at e1
  rw [e1, lk_set hq e2] at hP1
  exact k p e s m args below meth c H1 locs1 ls C hP1 (lk_D_any hD) hS1 hl0
theorem lk_zast {o f ci n : Nat} {i v : Int32} (hd : decode M.2.1 pc = .ok (.bastore, 1)) (hc : lk_ko o = ci) (hci : ci < 10) (hk : lk_fk ci f = (3, n)) (hin : vp_in i n) (hv : v = 0 ∨ v = 1) (k : lk_W l X M d (pc + 1) L S (lk_up σ o f i.toNatClampNeg v) τ Q) : lk_W l X M d pc L (lk_vi v :: lk_vi i :: lk_vr o (f + 1) :: S) σ τ Q := by
  intro p e s m args below meth c H locs ls C hP hD hS hl0
  have hk1 : (lk_fk (lk_ko o) f).1 = 3 := by rw [hc, hk]
  obtain ⟨q0, hq, hw⟩ := lk_at (X := X) (σ := σ) (τ := τ) (lk_memR (f := f) (lk_ko_lt hc hci) (Or.inr hk1))
  rw [lk_cellZ hc (by rw [hk]), hk] at hw
  obtain ⟨e1, e2⟩ := lk_e_row (X := X) (τ := τ) (lk_up_row σ o f i.toNatClampNeg v) (Or.inr hk1)
  refine va_zast C.1 C.2.1 C.2.2.2.2.2.2.2 hP hD hS q0 1 hw rfl hin hd (fun H1 locs1 hP1 hD1 hS1 => ?_)
  rw [if_pos hk1, hc, hk] at e1
  rw [lk_r01 hv, e1, lk_set hq e2] at hP1
  exact k p e s m args below meth c H1 locs1 ls C hP1 (lk_D_any hD) hS1 hl0
theorem lk_alenI {o f ci n : Nat} {v : Int32} (hd : decode M.2.1 pc = .ok (.arraylength, 1)) (hc : lk_ko o = ci) (hci : ci < 10) (hk : lk_fk ci f = (2, n)) (hv : Int32.ofNat n = v) (k : lk_W l X M d (pc + 1) L (lk_vi v :: S) σ τ Q) : lk_W l X M d pc L (lk_vr o (f + 1) :: S) σ τ Q := by
  intro p e s m args below meth c H locs ls C hP hD hS hl0
  have hk1 : (lk_fk ci f).1 = 2 := by rw [hk]
  obtain ⟨q0, hq, hw⟩ := lk_at (X := X) (σ := σ) (τ := τ) (lk_memR (f := f) (lk_ko_lt hc hci) (Or.inl (by rw [hc]; exact hk1)))
  rw [lk_cellR hc hk1, hk] at hw
  exact va_alen C.1 C.2.1 C.2.2.2.2.2.2.2 hP q0 0 hw rfl hv hd (k p e s m args below meth c H locs ls C hP hD hS hl0)
/-! answers -/
theorem lk_iret {v : Int32} (ty : FieldType) (hd : decode M.2.1 pc = .ok (.ireturn, 1)) (hr : M.2.2.2 = some ty) (hn : narrow ty (.int v) = .int v) (hQ : Q (some (lk_vi v)) σ τ) : lk_W l X M d pc L [lk_vi v] σ τ Q := by
  intro p e s m args below meth c H locs ls C hP hD hS hl0
  have hlocks := C.2.2.2.2.2.2.1
  exact W.zret (v := v) C.1 C.2.1 (by rw [C.2.2.1, hr]) hn (fun t ht hW => ⟨⟨some (lk_vi v), σ, τ, rfl, hQ, by rw [ht]; exact hP, va_K.moved hW.alike C.2.2.2.2.2.2.2, hD⟩, hS.F ht⟩) hS.2.2 hd hlocks
theorem lk_lret {v : Int64} (hd : decode M.2.1 pc = .ok (.lreturn, 1)) (hr : M.2.2.2 = some .long) (hQ : Q (some (lk_vl v)) σ τ) : lk_W l X M d pc L [lk_vl v] σ τ Q := by
  intro p e s m args below meth c H locs ls C hP hD hS hl0
  have hlocks := C.2.2.2.2.2.2.1
  exact W.lret (v := v) C.1 C.2.1 (by rw [C.2.2.1, hr]) (fun t ht hW => ⟨⟨some (lk_vl v), σ, τ, rfl, hQ, by rw [ht]; exact hP, va_K.moved hW.alike C.2.2.2.2.2.2.2, hD⟩, hS.F ht⟩) hS.2.2 hd hlocks
theorem lk_vret (hd : decode M.2.1 pc = .ok (.return_, 1)) (hr : M.2.2.2 = none) (hQ : Q none σ τ) : lk_W l X M d pc L [] σ τ Q := by
  intro p e s m args below meth c H locs ls C hP hD hS hl0
  have hlocks := C.2.2.2.2.2.2.1
  exact W.vret C.1 C.2.1 (by rw [C.2.2.1, hr]) (fun t ht hW => ⟨⟨none, σ, τ, rfl, hQ, by rw [ht]; exact hP, va_K.moved hW.alike C.2.2.2.2.2.2.2, hD⟩, hS.F ht⟩) hS.2.2 hd hlocks
end LKR
