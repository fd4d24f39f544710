/-! methods and calls of the pure judgement -/
def lk_args : Nat → List lk_V → List (Nat × lk_V)
  | _, [] => []
  | i, v :: vs => (i, v) :: lk_args (if lk_cat v = 2 then i + 2 else i + 1) vs
theorem lk_args_c (X : lk_G) : ∀ (vs : List lk_V) (i : Nat), lv_args i (vs.map (lk_c X.1)) = lk_lc X (lk_args i vs)
  | [], _ => rfl
  | v :: vs, i => by
    show (i, lk_c X.1 v) :: lv_args _ _ = (i, lk_c X.1 v) :: lk_lc X _
    rw [lk_args_c X vs, lk_c_cat]
theorem lk_sl_len (X : lk_G) : ∀ (vs : List lk_V), (lg_sl (vs.map (lk_c X.1))).length = (vs.map lk_cat).sum
  | [] => rfl
  | v :: vs => by
    have ih := lk_sl_len X vs
    have hc := lk_c_cat X.1 v
    simp only [lg_sl, List.map_cons, List.flatMap_cons, List.length_append, List.sum_cons] at ih ⊢
    rw [ih]
    congr 1
    rcases v with x | x | q <;> rfl
theorem lk_met {l : Launch} {X : lk_G} {M : lk_M} {d : Nat} {args : List lk_V} {σ : lk_N} {τ : lk_T} {Q : lk_Q} {L : List (Nat × lk_V)} (hy : plainName M.1.cls = true) (hlen : (args.map lk_cat).sum ≤ M.2.2.1) (hL : lk_args 0 args = L) (k : lk_W l X M d 0 L [] σ τ Q) : lk_Mt l X M d args σ τ Q := by
  subst hL
  refine Met.ofW (cc := M.2.1) (maxL := M.2.2.1) (ret := M.2.2.2) hy rfl ?_
  intro p e s m args' below meth c s₁ B hml hv
  obtain ⟨rfl, hP, hK, hD⟩ := hv
  have hts := atoms_spec (ws := lk_wd M) B.pre
  rw [lg_entry_eq]
  have hl := lv_entry (args.map (lk_c X.1)) (n := M.2.2.1) (by rw [lk_sl_len]; exact hlen)
  rw [lk_args_c] at hl
  exact k p e s m _ below meth c s.heap [] _ ⟨B.exec, B.bytes, B.returns, hml, findClass_of_methodNamed B.named, hts, B.notSynchronized, hK⟩ hP hD va_S.rf hl
theorem lk_Mt_mono {l : Launch} {X : lk_G} {M : lk_M} {d : Nat} {args : List lk_V} {σ : lk_N} {τ : lk_T} {Q Q' : lk_Q} (h : lk_Mt l X M d args σ τ Q') (hQ : ∀ r a b, Q' r a b → Q r a b) : lk_Mt l X M d args σ τ Q := by
  intro p e ha hc hk s m as below hf happ hpre hsp
  obtain ⟨t, o, h1, h2, h3, ⟨⟨r, a, b, q1, q2, q3⟩, q4⟩, h5⟩ := h p e ha hc hk s m as below hf happ hpre hsp
  exact ⟨t, o, h1, h2, h3, ⟨⟨r, a, b, q1, hQ r a b q2, q3⟩, q4⟩, h5⟩
theorem lk_H_calling {X : lk_G} {σ : lk_N} {τ : lk_T} {U : State} {g : JFrame} {mk : MethodId} {a : Array Value} (h : lk_H X σ τ U) : lk_H X σ τ (U.calling g mk a) :=
  ⟨h.1, va_K.moved (u := U) (U := U.calling g mk a) (Vm.Alike.refl U.vm) h.2.1, h.2.2⟩
section LKC
variable {l : Launch} {X : lk_G} {M : lk_M} {d pc : Nat} {L : List (Nat × lk_V)} {S : List lk_V} {σ : lk_N} {τ : lk_T} {Q : lk_Q}
/-- behind a call -/
theorem lk_after {Q' : lk_Q} {p : Program} {e : Env} {s : State} {m : MethodId} {args : Array Value} {below : List Frame} {meth : Method} {c : Code} {H : Heap} {locs : List Loc} {ls : Array Slot} {st0 : List Value} {R : Room} {aa : Array Value} {Qw : State → Prop}
    (hr : va_Run p l e R s m args below meth c H locs 0 0 0 0 (F0 m pc ls st0) (S.map (lk_c X.1)) (lk_Qc X Q' aa) (lk_A X)) (hS : va_S (lk_A X) s.heap H locs)
    (kk : ∀ (r : Option lk_V) (σ' : lk_N) (τ' : lk_T) (H1 : Heap) (locs1 : List Loc), Q' r σ' τ' → va_P X.2.1 vwCl (lk_ws X σ' τ') H1 → va_D (lk_A X) (lk_ws X σ' τ') → va_S (lk_A X) s.heap H1 locs1 → W p l e R s m args below meth c H1 locs1 0 0 Qw (F0 m (pc + 3) ls ((r.toList ++ S).map (lk_c X.1)))) : W p l e R s m args below meth c H locs 0 0 Qw (F0 m pc ls st0) := by
  intro T hT X0
  obtain ⟨v, st₀, t, T', Lc, h0, X', hL, e1, e2, ⟨⟨r, σ', τ', hv, hq, hP, hK, hD⟩, hz, hk⟩, st⟩ := hr T hT X0
  have hv' : v = r.map (lk_c X.1) := by cases hv; rfl
  rw [h0] at hz hk
  have hS' : va_S (lk_A X) s.heap T'.heap (locs ++ Lc) := ⟨Nat.le_trans hS.1 (by rw [e1]; exact hz), fun q h1 h2 => by rw [e1, hk q (Nat.lt_of_lt_of_le h1 hS.1) h2]; exact hS.2.1 q h1 h2, fun q hq => by
      rcases List.mem_append.mp hq with h | h
      · exact hS.2.2 q h
      · exact hL q h⟩
  obtain ⟨t2, a1, b1⟩ := kk r σ' τ' T'.heap (locs ++ Lc) hq (by rw [e1]; exact hP) hD hS' T' rfl X'
  refine ⟨t2, st t2 ?_, b1⟩
  subst hv'
  have : (r.map (lk_c X.1)).toList ++ S.map (lk_c X.1) = (r.toList ++ S).map (lk_c X.1) := by cases r <;> rfl
  rw [this]
  exact a1
theorem lk_rest {S : List lk_V} (γ : Nat → Nat → Nat) (h : (S.map lk_cat).sum ≤ 8) : ((S.map (lk_c γ)).map fun v => v.category).sum ≤ 8 := by
  have : (S.map (lk_c γ)).map (fun v => v.category) = S.map lk_cat := by
    rw [List.map_map]
    exact List.map_congr_left (fun v _ => lk_c_cat γ v)
  rw [this]; exact h
theorem lk_callV {M' : lk_M} {n idx o ci : Nat} {as : List lk_V} {S0 : List lk_V} {Q' : lk_Q} (hd : decode M.2.1 pc = .ok (.invokevirtual idx, 3)) (hs : S0 = as.reverse ++ lk_vr o 0 :: S) (cv : lk_cv M' n) (hn : as.length = n) (hl : Cond.methodLink M.1.cls idx M'.1 ∈ lk_AW) (hc : lk_ko o = ci) (hci : (vwCl[ci]?).map (fun q => q.1) = some M'.1.cls) (hroom : (S.map lk_cat).sum ≤ 8)
    (hM : lk_Mt l X M' d (lk_vr o 0 :: as) σ τ Q') (k : ∀ (r : Option lk_V) (σ' : lk_N) (τ' : lk_T), Q' r σ' τ' → lk_W l X M (d + 1) (pc + 3) L (r.toList ++ S) σ' τ' Q) : lk_W l X M (d + 1) pc L S0 σ τ Q := by
  subst hs
  intro p e s m args below meth c H locs ls C hP hD hS hl0
  obtain ⟨hx, hb, hr, hml, hown, hts, hlk, hK⟩ := C
  obtain ⟨w1, w2, w3, w4, ⟨w5, w6, w7⟩, w8⟩ := cv
  have hin : ∀ w ∈ lk_AW, w.before args s = true := fun w h => hts w (List.mem_cons_of_mem _ h)
  obtain ⟨q, hq1, hq2⟩ := Option.map_eq_some_iff.mp hci
  have hci10 : ci < 10 := (List.getElem?_eq_some_iff.mp hq1).1
  obtain ⟨q0, hq0, hw0⟩ := lk_at (X := X) (σ := σ) (τ := τ) (lk_mem0 (lk_ko_lt hc hci10))
  have hrec := va_recv hK hP (ci := ci) (q := q) hq1 (q0 := q0) (a := X.1 o 0) (fs := (List.range (lk_nf (lk_ko o))).map (lk_fv X.1 σ τ o)) (by rw [hw0, ← hc]; rfl)
  rw [hq2] at hrec
  have hfb : FrameBlind (va_Pc ((lk_vr o 0 :: as).map (lk_c X.1)) (lk_H X σ τ)) := fun a U g mk q => ⟨q.1, lk_H_calling q.2⟩
  refine lk_after (S := S) (va_runV (As := as.map (lk_c X.1)) (n := n) (index := idx) (C := M'.1.cls) (ret := M'.2.2.2) (bytes := M'.2.1) (maxL := M'.2.2.1) ⟨hx, hb, hml, hown, hts⟩ hM ⟨callB_of n hts (lk_good w4) rfl rfl rfl (hin _ w3) (hin _ hl) ⟨w5, w6, w7⟩ ⟨Nat.le_refl _, by show 8 + (M'.2.2.1 + 11) + 40 * d ≤ 40 * (d + 1); omega⟩, hin _ w1, hin _ w2⟩ ⟨hfb, hrec, fun U hU hW => ⟨rfl, by rw [hU]; exact hP, va_K.moved hW.alike hK, hD⟩⟩ rfl (by simpa using hn) hl0.1 ?_ (lv_room (lk_rest X.1 hroom)) hd ⟨Nat.zero_le _, Nat.zero_le _⟩) hS (fun r σ' τ' H1 locs1 hq hP1 hD1 hS1 => k r σ' τ' hq p e s m args below meth c H1 locs1 ls ⟨hx, hb, hr, hml, hown, hts, hlk, hK⟩ hP1 hD1 hS1 hl0)
  show ((as.reverse ++ lk_vr o 0 :: S).map (lk_c X.1)) = _
  simp [lk_c]
theorem lk_callS {M' : lk_M} {n idx : Nat} {as : List lk_V} {S0 : List lk_V} {Q' : lk_Q} (hd : decode M.2.1 pc = .ok (.invokestatic idx, 3)) (hs : S0 = as.reverse ++ S) (cv : lk_cs M' n) (hn : as.length = n) (hl : Cond.methodLink M.1.cls idx M'.1 ∈ lk_AW) (hroom : (S.map lk_cat).sum ≤ 8)
    (hM : lk_Mt l X M' d as σ τ Q') (k : ∀ (r : Option lk_V) (σ' : lk_N) (τ' : lk_T), Q' r σ' τ' → lk_W l X M (d + 1) (pc + 3) L (r.toList ++ S) σ' τ' Q) : lk_W l X M (d + 1) pc L S0 σ τ Q := by
  subst hs
  intro p e s m args below meth c H locs ls C hP hD hS hl0
  obtain ⟨hx, hb, hr, hml, hown, hts, hlk, hK⟩ := C
  obtain ⟨w1, w3, w4, ⟨w5, w6, w7⟩, w8⟩ := cv
  have hin : ∀ w ∈ lk_AW, w.before args s = true := fun w h => hts w (List.mem_cons_of_mem _ h)
  have hfb : FrameBlind (va_Pc (as.map (lk_c X.1)) (lk_H X σ τ)) := fun a U g mk q => ⟨q.1, lk_H_calling q.2⟩
  refine lk_after (S := S) (va_runS (As := as.map (lk_c X.1)) (n := n) (index := idx) (ret := M'.2.2.2) (bytes := M'.2.1) (maxL := M'.2.2.1) ⟨hx, hb, hml, hown, hts⟩ hM ⟨callB_of n hts (lk_good w4) rfl rfl rfl (hin _ w3) (hin _ hl) ⟨w5, w6, w7⟩ ⟨Nat.le_refl _, by show 8 + (M'.2.2.1 + 11) + 40 * d ≤ 40 * (d + 1); omega⟩, hin _ w1⟩ ⟨hfb, fun U hU hW => ⟨rfl, by rw [hU]; exact hP, va_K.moved hW.alike hK, hD⟩⟩ rfl (by simpa using hn) hl0.1 ?_ (lv_room (lk_rest X.1 hroom)) hd ⟨Nat.zero_le _, Nat.zero_le _⟩) hS (fun r σ' τ' H1 locs1 hq hP1 hD1 hS1 => k r σ' τ' hq p e s m args below meth c H1 locs1 ls ⟨hx, hb, hr, hml, hown, hts, hlk, hK⟩ hP1 hD1 hS1 hl0)
  show ((as.reverse ++ S).map (lk_c X.1)) = _
  simp
/-! members of the library -/
theorem lk_mmax {idx : Nat} {x y : Int32} (hd : decode M.2.1 pc = .ok (.invokestatic idx, 3)) (hl : Cond.methodLink M.1.cls idx yJ9_max_7cf53 ∈ lk_AW) (hroom : (S.map lk_cat).sum ≤ 8) (k : lk_W l X M (d + 1) (pc + 3) L (lk_vi (if x < y then y else x) :: S) σ τ Q) : lk_W l X M (d + 1) pc L (lk_vi y :: lk_vi x :: S) σ τ Q := by
  intro p e s m args below meth c H locs ls C hP hD hS hl0
  obtain ⟨hx, hb, hr, hml, hown, hts, hlk, hK⟩ := id C
  have hin : ∀ w ∈ lk_AW, w.before args s = true := fun w h => hts w (List.mem_cons_of_mem _ h)
  have hroom' := lk_rest X.1 hroom
  exact va_mmax hx hb (by rw [hml]; exact hl0.1.symm) hown (hin _ hl) (hin _ vJ9_max_7cf53.1) (hin _ vJ9_max_7cf53.2.1) (hin _ vJ9_max_7cf53.2.2.1) (by show 1 ≤ d + 1; omega) (by show _ + 13 ≤ 40 * (d + 1); omega) (Nat.zero_le _) (Nat.zero_le _) hd (k p e s m args below meth c H locs ls C hP hD hS hl0)
theorem lk_mmin {idx : Nat} {x y : Int32} (hd : decode M.2.1 pc = .ok (.invokestatic idx, 3)) (hl : Cond.methodLink M.1.cls idx yJ9_min_7cf53 ∈ lk_AW) (hroom : (S.map lk_cat).sum ≤ 8) (k : lk_W l X M (d + 1) (pc + 3) L (lk_vi (if y < x then y else x) :: S) σ τ Q) : lk_W l X M (d + 1) pc L (lk_vi y :: lk_vi x :: S) σ τ Q := by
  intro p e s m args below meth c H locs ls C hP hD hS hl0
  obtain ⟨hx, hb, hr, hml, hown, hts, hlk, hK⟩ := id C
  have hin : ∀ w ∈ lk_AW, w.before args s = true := fun w h => hts w (List.mem_cons_of_mem _ h)
  have hroom' := lk_rest X.1 hroom
  exact va_mmin hx hb (by rw [hml]; exact hl0.1.symm) hown (hin _ hl) (hin _ vJ9_min_7cf53.1) (hin _ vJ9_min_7cf53.2.1) (hin _ vJ9_min_7cf53.2.2.1) (by show 1 ≤ d + 1; omega) (by show _ + 13 ≤ 40 * (d + 1); omega) (Nat.zero_le _) (Nat.zero_le _) hd (k p e s m args below meth c H locs ls C hP hD hS hl0)
/-- n numbers of a row over those of another, from place 0 on -/
def lk_cp (σ : lk_N) (o f o' f' n : Nat) : lk_N := fun a b i => if a = o' ∧ b = f' then (if i < n then σ o f i else σ o' f' i) else σ a b i
theorem lk_copy {idx o f o' f' ci ci' n0 n1 : Nat} {n : Int32} {k0 : Nat} (hd : decode M.2.1 pc = .ok (.invokestatic idx, 3)) (hl : Cond.methodLink M.1.cls idx arraycopyName ∈ lk_AW) (hnat : Cond.native arraycopyName ∈ lk_AW) (hstat : Cond.static arraycopyName ∈ lk_AW) (hini : Cond.initialized "java/lang/System" ∈ lk_AW) (hc : lk_ko o = ci) (hci : ci < 10) (hk : lk_fk ci f = (2, n0)) (hc' : lk_ko o' = ci') (hci' : ci' < 10) (hk' : lk_fk ci' f' = (2, n1)) (hn : ¬ n < 0) (hn0 : n.toNatClampNeg = k0) (h0 : k0 ≤ n0) (h1 : k0 ≤ n1) (hroom : (S.map lk_cat).sum ≤ 8)
    (k : lk_W l X M (d + 2) (pc + 3) L S (lk_cp σ o f o' f' k0) τ Q) : lk_W l X M (d + 2) pc L (lk_vi n :: lk_vi 0 :: lk_vr o' (f' + 1) :: lk_vi 0 :: lk_vr o (f + 1) :: S) σ τ Q := by
  intro p e s m args below meth c H locs ls C hP hD hS hl0
  obtain ⟨hx, hb, hr, hml, hown, hts, hlk, hK⟩ := id C
  have hin : ∀ w ∈ lk_AW, w.before args s = true := fun w h => hts w (List.mem_cons_of_mem _ h)
  have hk1 : (lk_fk (lk_ko o) f).1 = 2 := by rw [hc, hk]
  have hk1' : (lk_fk (lk_ko o') f').1 = 2 := by rw [hc', hk']
  obtain ⟨q0, hq, hw⟩ := lk_at (X := X) (σ := σ) (τ := τ) (lk_memR (f := f) (lk_ko_lt hc hci) (Or.inl hk1))
  obtain ⟨q1, hq', hw'⟩ := lk_at (X := X) (σ := σ) (τ := τ) (lk_memR (f := f') (lk_ko_lt hc' hci') (Or.inl hk1'))
  rw [lk_cellR hc (by rw [hk]), hk] at hw
  rw [lk_cellR hc' (by rw [hk']), hk'] at hw'
  have hz : (0 : Int32).toNatClampNeg = 0 := rfl
  have hroom' := lk_rest X.1 hroom
  have hrow : ∀ a b i, lk_cp σ o f o' f' k0 a b i = if a = o' ∧ b = f' then va_cpy (σ o f) (σ o' f') 0 0 n.toNatClampNeg i else σ a b i := by
    intro a b i
    simp only [lk_cp, va_cpy, hn0, Nat.zero_le, true_and, Nat.zero_add, Nat.sub_zero]
  obtain ⟨e1, e2⟩ := lk_e_row (X := X) (τ := τ) hrow (Or.inl hk1')
  refine va_copyi hx hb (by rw [hml]; exact hl0.1.symm) hown (hin _ hl) (hin _ hnat) (hin _ hstat) (hin _ hini) hK hP hD hS q0 q1 0 0 hw hw' rfl rfl rfl (sp := 0) (dp := 0) (by decide) (by decide) hn (by rw [hz, hn0]; omega) (by rw [hz, hn0]; omega) (fun i _ => rfl) (by show 1 ≤ d + 2; omega) ?_ hd (fun H1 locs1 hP1 hD1 hS1 => ?_)
  · have : nativeFrameWords "java/lang/System" "arraycopy" 5 ≤ 40 := by decide +kernel
    show _ + _ ≤ 40 * (d + 2)
    omega
  · rw [hz] at hP1
    rw [if_neg (by rw [hk1']; decide), hc', hk'] at e1
    rw [e1, lk_set hq' e2] at hP1
    exact k p e s m args below meth c H1 locs1 ls C hP1 (lk_D_any hD) hS1 hl0
end LKC
