/-! THE WORLD BY BLOCKS: a world's order is nothing -/
theorem lk_P_mem {D : va_G} {cl : List vw_C} {ws ws' : va_W} {H : Heap} (h : va_P D cl ws H) (hm : ∀ q ∈ ws', q ∈ ws) : va_P D cl ws' H := fun k q hk => by
  obtain ⟨j, hj⟩ := List.getElem?_of_mem (hm q (List.mem_of_getElem? hk))
  exact h j q hj
theorem lk_D_nodup {A : Nat → Prop} {ws : va_W} : va_D A ws ↔ (ws.map Prod.fst).Nodup ∧ ∀ q ∈ ws, A q.1 := by
  constructor
  · intro h
    refine ⟨List.pairwise_iff_getElem.mpr (fun i j hi hj hij e => ?_), fun q hq => ?_⟩
    · rw [List.length_map] at hi hj
      rw [List.getElem_map, List.getElem_map] at e
      have := h.1 i j _ _ (List.getElem?_eq_getElem hi) (List.getElem?_eq_getElem hj) e
      omega
    · obtain ⟨k, hk⟩ := List.getElem?_of_mem hq
      exact h.2 k q hk
  · rintro ⟨h1, h2⟩
    refine ⟨fun i j x y hi hj e => ?_, fun k q hk => h2 q (List.mem_of_getElem? hk)⟩
    refine lk_nodup_inj h1 (a := x.1) ?_ ?_
    · rw [List.getElem?_map, hi]; rfl
    · rw [List.getElem?_map, hj, e]; rfl
theorem lk_D_perm {A : Nat → Prop} {ws ws' : va_W} (hp : ws.Perm ws') (h : va_D A ws) : va_D A ws' := by
  rw [lk_D_nodup] at h ⊢
  exact ⟨(hp.map Prod.fst).nodup_iff.mp h.1, fun q hq => h.2 q (hp.mem_iff.mpr hq)⟩
theorem lk_P_perm {D : va_G} {cl : List vw_C} {ws ws' : va_W} {H : Heap} (hp : ws.Perm ws') (h : va_P D cl ws H) : va_P D cl ws' H := lk_P_mem h (fun q hq => hp.mem_iff.mpr hq)
/-- where each cell lies -/
def lk_ga (q : Nat) (u : Nat → Nat → Nat) (h9 : Nat) (v : Nat → Nat) : Nat → Nat → Nat := fun o f => match o, f with
  | 0, _ => q | 1, 0 => h9 | 1, f + 1 => v f
  | 2, 0 => u 0 0 | 2, f + 1 => u 1 (f - 2) | 3, 0 => u 1 8 | 3, _ => u 1 9 | 4, _ => u 1 10
  | 5, 0 => u 0 3 | 5, f + 1 => u 4 (f - 2) | 6, 0 => u 4 8 | 6, _ => u 4 9 | 7, _ => u 4 10
  | 8, 0 => u 0 5 | 8, f + 1 => u 6 (f - 2) | 9, 0 => u 6 8 | 9, _ => u 6 9 | 10, _ => u 6 10
  | 11, 0 => u 0 1 | 11, f + 1 => u 2 f
  | 13, 0 => u 0 4 | 13, f + 1 => u 5 f
  | 12, 0 => u 0 6 | 12, f + 1 => u 7 f
  | 14, 0 => u 0 2 | 14, f + 1 => u 3 f
  | 15, 0 => u 0 7 | 15, f + 1 => u 8 f
  | 16, 0 => u 0 8 | 16, f + 1 => u 9 f
  | 17, _ => u 0 9
  | 18, _ => u 0 10
  | _, _ => 0
/-- the numbers behind the constructors, before begins(2) -/
def lk_s0 (G : Nat → Nat → Int32) : lk_N := fun o f => match o, f with
  | 2, 0 => fun _ => 2 | 2, 1 => fun _ => 0 | 2, 2 => G 2 | 2, 3 => G 3 | 2, 4 => G 4 | 2, 5 => G 5 | 2, 6 => G 6 | 2, 7 => G 7 | 2, 8 => G 8 | 2, 9 => G 9 | _, _ => fun _ => 0
def lk_t0 : lk_T := fun _ _ => 0
abbrev lk_X0 (D : va_G) (cI cB : ClassId) (q : Nat) (u : Nat → Nat → Nat) (h9 : Nat) (v : Nat → Nat) : lk_G := (lk_ga q u h9 v, D, cI, cB)
abbrev lk_mfld (v : Nat → Nat) : List Value := [.ref (v 0), .ref (v 1), .ref (v 2), .int 0, .long 0, .long 0, .int 0, .int 0, .int 0, .int 0, .int 0, .ref (v 11), .int 0, .ref (v 13), .int 0, .int 0, .ref (v 16), .int 0, .int 0, .int 0, .ref (v 20), .ref (v 21), .int 0, .int 0, .int 0, .int 0, .int 0, .ref (v 27), .ref (v 28)]
abbrev lk_mrow (cI : ClassId) (v : Nat → Nat) : va_W := [(v 0, .inl (cI, 235, .inl (fun _ => 0))), (v 1, .inl (cI, 235, .inl (fun _ => 0))), (v 2, .inl (cI, 235, .inl (fun _ => 0))), (v 11, .inl (cI, 4, .inl (fun _ => 0))), (v 13, .inl (cI, 60, .inl (fun _ => 0))), (v 16, .inl (cI, 60, .inl (fun _ => 0))), (v 20, .inl (cI, 12, .inl (fun _ => 0))), (v 21, .inl (cI, 12, .inl (fun _ => 0))), (v 27, .inl (cI, 12, .inl (fun _ => 0))), (v 28, .inl (cI, 12, .inl (fun _ => 0)))]
def lk_bl (X : lk_G) (σ : lk_N) (τ : lk_T) (o : Nat) : va_W := match o with
  | 19 => ((lk_rows 9).map (fun f => (1, f + 1))).map (fun q => (X.1 q.1 q.2, lk_e X σ τ q))
  | 1 => [(X.1 1 0, lk_e X σ τ (1, 0))]
  | o => ((o, 0) :: (lk_rows (lk_ko o)).map (fun f => (o, f + 1))).map (fun q => (X.1 q.1 q.2, lk_e X σ τ q))
theorem lk_ws_bl (X : lk_G) (σ : lk_N) (τ : lk_T) : lk_ws X σ τ = ([0, 1, 19, 2, 3, 4, 5, 6, 7, 8, 9, 10, 11, 12, 13, 14, 15, 16, 17, 18].map (lk_bl X σ τ)).flatten := rfl
set_option maxRecDepth 4000 in
theorem lk_world0 (D : va_G) (cI cB : ClassId) (q : Nat) (u : Nat → Nat → Nat) (G : Nat → Nat → Int32) (h9 : Nat) (v : Nat → Nat) : ([(h9, .inr (9, lk_mfld v))] ++ lk_wo8 cI cB q u G ++ lk_mrow cI v : va_W) = ([1, 0, 3, 4, 11, 14, 5, 6, 7, 13, 8, 9, 10, 12, 15, 16, 17, 18, 2, 19].map (lk_bl (lk_X0 D cI cB q u h9 v) (lk_s0 G) lk_t0)).flatten := by
  have e0 : lk_bl (lk_X0 D cI cB q u h9 v) (lk_s0 G) lk_t0 0 = [(q, .inr (8, [.ref (u 0 0), .ref (u 0 1), .ref (u 0 2), .long 0, .ref (u 0 3), .ref (u 0 4), .long 0, .int 0, .ref (u 0 5), .ref (u 0 6), .ref (u 0 7), .ref (u 0 8), .ref (u 0 9), .ref (u 0 10)]))] := rfl
  have e1 : lk_bl (lk_X0 D cI cB q u h9 v) (lk_s0 G) lk_t0 1 = [(h9, .inr (9, lk_mfld v))] := rfl
  have e19 : lk_bl (lk_X0 D cI cB q u h9 v) (lk_s0 G) lk_t0 19 = lk_mrow cI v := rfl
  have e2 : lk_bl (lk_X0 D cI cB q u h9 v) (lk_s0 G) lk_t0 2 = lk_wG cI cB (u 0 0) 2 0 (fun f => u 1 (f - 2)) (u 1 8) (u 1 10) G := rfl
  have e3 : lk_bl (lk_X0 D cI cB q u h9 v) (lk_s0 G) lk_t0 3 = lk_wo5 cI cB (u 1 8) (fun z => u 1 (9 + z)) := rfl
  have e4 : lk_bl (lk_X0 D cI cB q u h9 v) (lk_s0 G) lk_t0 4 = lk_wo1 cI cB (u 1 10) (fun z => u 1 (11 + z)) := rfl
  have e5 : lk_wo0 cI cB (u 0 3) (u 4) = lk_bl (lk_X0 D cI cB q u h9 v) (lk_s0 G) lk_t0 5 ++ lk_bl (lk_X0 D cI cB q u h9 v) (lk_s0 G) lk_t0 6 ++ lk_bl (lk_X0 D cI cB q u h9 v) (lk_s0 G) lk_t0 7 := rfl
  have e8 : lk_wo0 cI cB (u 0 5) (u 6) = lk_bl (lk_X0 D cI cB q u h9 v) (lk_s0 G) lk_t0 8 ++ lk_bl (lk_X0 D cI cB q u h9 v) (lk_s0 G) lk_t0 9 ++ lk_bl (lk_X0 D cI cB q u h9 v) (lk_s0 G) lk_t0 10 := rfl
  have e11 : lk_wo2 cI cB (u 0 1) (u 2) = lk_bl (lk_X0 D cI cB q u h9 v) (lk_s0 G) lk_t0 11 := rfl
  have e13 : lk_wo2 cI cB (u 0 4) (u 5) = lk_bl (lk_X0 D cI cB q u h9 v) (lk_s0 G) lk_t0 13 := rfl
  have e12 : lk_wo2 cI cB (u 0 6) (u 7) = lk_bl (lk_X0 D cI cB q u h9 v) (lk_s0 G) lk_t0 12 := rfl
  have e14 : lk_wo6 cI cB (u 0 2) (u 3) = lk_bl (lk_X0 D cI cB q u h9 v) (lk_s0 G) lk_t0 14 := rfl
  have e15 : lk_wo3 cI cB (u 0 7) (u 8) = lk_bl (lk_X0 D cI cB q u h9 v) (lk_s0 G) lk_t0 15 := rfl
  have e16 : lk_wo3 cI cB (u 0 8) (u 9) = lk_bl (lk_X0 D cI cB q u h9 v) (lk_s0 G) lk_t0 16 := rfl
  have e17 : lk_wo4 cI cB (u 0 9) (u 10) = lk_bl (lk_X0 D cI cB q u h9 v) (lk_s0 G) lk_t0 17 := rfl
  have e18 : lk_wo7 cI cB (u 0 10) (u 11) = lk_bl (lk_X0 D cI cB q u h9 v) (lk_s0 G) lk_t0 18 := rfl
  rw [lk_wo8, e5, e8, e11, e12, e13, e14, e15, e16, e17, e18]
  simp only [List.map_cons, List.map_nil, List.flatten_cons, List.flatten_nil, e0, e1, e19, e2, e3, e4, List.append_assoc, List.append_nil]
theorem lk_world (D : va_G) (cI cB : ClassId) (q : Nat) (u : Nat → Nat → Nat) (G : Nat → Nat → Int32) (h9 : Nat) (v : Nat → Nat) : ([(h9, .inr (9, lk_mfld v))] ++ lk_wo8 cI cB q u G ++ lk_mrow cI v : va_W).Perm (lk_ws (lk_X0 D cI cB q u h9 v) (lk_s0 G) lk_t0) := by
  rw [lk_world0 D, lk_ws_bl]
  exact (((show [1, 0, 3, 4, 11, 14, 5, 6, 7, 13, 8, 9, 10, 12, 15, 16, 17, 18, 2, 19].Perm [0, 1, 19, 2, 3, 4, 5, 6, 7, 8, 9, 10, 11, 12, 13, 14, 15, 16, 17, 18] by decide).map _)).flatten
