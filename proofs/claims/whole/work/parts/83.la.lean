/-! THE CLAIM OUT OF ONE WALK OF THE LAW'S BODY. Your part is whole_start (and what it stands on); all else here is the same for every law, but numbers. -/
def R_law : String := "LockStaircaseLaw"
def lw_P (b : Addr) (xs : List Int32) (args : Array Value) (s : State) : Prop := args = #[.ref b] ∧ s.IntsAt b xs ∧ xs.length ≤ 2560 ∧ (Jvm.Cond.and given_1 narrow_1).before args s = true
def lw_Q (_ : Array Value) (s : State) (o : Outcome) (t : State) : Prop := o = .returned (some (.int 1)) ∧ Framed s o t [] 600000 7302249
def lw_Z (below : List Frame) (a : Array Value) (s : State) : State → Prop := fun t => ∃ o, t.status = .running ∧ Ended t below o ∧ lw_Q a s o t
/-- the law's own end, with 1 on the stack, nothing written that was there before, its room as the claim has it -/
theorem lw_ret {p : Program} {l : Launch} {e : Env} {s : State} {m : MethodId} {below : List Frame} {meth : Method} {c : Code} {b : Nat} (hx : p.tables.exec = Jvm.exec) (hb : c.code = code) (hr : meth.sig.returnType = ret) (hlocks : meth.locks = false) {pc : Nat} {H : Heap} {ls : Array Slot} (hdg : decode code pc = .ok (.ireturn, 1)) : W p l e room_1 s m #[Value.ref b] below meth c H [] 600000 7302249 (lw_Z below #[Value.ref b] s) (F0 m pc ls [.int 1]) := by
  intro T hT X
  obtain ⟨fs, hret, hrun, hended, hW, hframe⟩ := X.leave (v := some (.int 1)) (hlocks := hlocks) (fun h => by rw [hr] at h; cases h)
  have hmeth' : T.vm.method? m = some meth := X.method'
  refine ⟨T.setFrames fs, ?_, .returned (some (.int 1)), hrun, hended, rfl, ⟨_, rfl⟩, hW, hframe⟩
  jvm_step X.here [X.here.top, hx, hb, hdg, hmeth', hr, ret, narrow_b1]
  (try refine ⟨rfl, ?_⟩); (try refine ⟨rfl, ?_⟩)
  first | (intro acts; rw [hret _ acts rfl rfl rfl]) | rw [hret _ _ rfl rfl rfl]
  exact Steps.refl _
/-- what holds at the law's entry: the machine, the code, the tables' words (any of lw_tbl by 'hts w (by decide +kernel)'), the script of L ints xs at the cell b, what the Statement gives of the start (any of its parts by flat_of_before) -/
def lw_At (p : Program) (s : State) (m : MethodId) (meth : Method) (c : Code) (b L : Nat) (xs : Nat → Int32) : Prop :=
  p.tables.exec = Jvm.exec ∧ c.code = code ∧ meth.sig.returnType = ret ∧ c.maxLocals = 4 ∧ s.vm.findClass R_law = some m.cls ∧ (∀ w ∈ lw_tbl, w.before #[Value.ref b] s = true) ∧ va_X b L xs s s.heap ∧ b < s.heap.size ∧ meth.locks = false ∧ (Jvm.Cond.and given_1 narrow_1).before #[Value.ref b] s = true
/-! THE LAW'S OWN JUDGEMENT: locals script, class's object, model's object, place; the world's numbers -/
def lk_LC (X : lk_G) (p : Program) (s : State) (m : MethodId) (meth : Method) (c : Code) (b L : Nat) (xs : Nat → Int32) (cc ss : Nat) : Prop :=
  lw_At p s m meth c b L xs ∧ va_K X.2.1 vwCl (lk_tys X) s ∧ (∀ q, lk_A X q → s.heap.size ≤ q) ∧ cc ≤ 600000 ∧ ss ≤ 7302249 ∧ L ≤ 2560
def lk_LW (l : Launch) (e : Env) (X : lk_G) (p : Program) (s : State) (m : MethodId) (below : List Frame) (meth : Method) (c : Code) (b cc ss pc : Nat) (S : List Value) (i : Int32) (σ : lk_N) (τ : lk_T) : Prop :=
  ∀ (H : Heap) (locs : List Loc) (ls : Array Slot), va_P X.2.1 vwCl (lk_ws X σ τ) H → va_D (lk_A X) (lk_ws X σ τ) → va_S (fun q => s.heap.size ≤ q) s.heap H locs → lv_has ls 4 [(3, .int i), (0, .ref b), (1, .ref (X.1 0 0)), (2, .ref (X.1 1 0))] →
    W p l e room_1 s m #[Value.ref b] below meth c H locs cc ss (lw_Z below #[Value.ref b] s) (F0 m pc ls S)
section LKL
variable {l : Launch} {e : Env} {X : lk_G} {p : Program} {s : State} {m : MethodId} {below : List Frame} {meth : Method} {c : Code} {b L : Nat} {xs : Nat → Int32} {cc ss pc : Nat} {S : List Value} {i : Int32} {σ : lk_N} {τ : lk_T}
theorem lk_Lal1 (C : lk_LC X p s m meth c b L xs cc ss) (hd : decode code pc = .ok (.aload_n 1, 1)) (k : lk_LW l e X p s m below meth c b cc ss (pc + 1) (.ref (X.1 0 0) :: S) i σ τ) : lk_LW l e X p s m below meth c b cc ss pc S i σ τ :=
  fun H locs ls hP hD hS hl => lv_aload_n C.1.1 C.1.2.1 hd rfl (lv_at hl 2 rfl) (k H locs ls hP hD hS hl)
theorem lk_Lal2 (C : lk_LC X p s m meth c b L xs cc ss) (hd : decode code pc = .ok (.aload_n 2, 1)) (k : lk_LW l e X p s m below meth c b cc ss (pc + 1) (.ref (X.1 1 0) :: S) i σ τ) : lk_LW l e X p s m below meth c b cc ss pc S i σ τ :=
  fun H locs ls hP hD hS hl => lv_aload_n C.1.1 C.1.2.1 hd rfl (lv_at hl 3 rfl) (k H locs ls hP hD hS hl)
/-- the word at place i + j of the script -/
theorem lk_Larg {k j : Nat} {n : Int} (C : lk_LC X p s m meth c b L xs cc ss) (h1 : decode code pc = .ok (.aload_n 0, 1)) (h2 : decode code (pc + 1) = .ok (.iload_n 3, 1)) (h3 : decode code (pc + 2) = .ok (.iconst n, 1)) (h4 : decode code (pc + 3) = .ok (.iadd, 1)) (h5 : decode code (pc + 4) = .ok (.iaload, 1)) (hn : Int32.ofInt n = nI j) (hk : k + j < L)
    (kk : lk_LW l e X p s m below meth c b cc ss (pc + 5) (.int (xs (k + j)) :: S) (nI k) σ τ) : lk_LW l e X p s m below meth c b cc ss pc S (nI k) σ τ := by
  intro H locs ls hP hD hS hl
  have hL := C.2.2.2.2.2
  refine lv_aload_n C.1.1 C.1.2.1 h1 rfl (lv_at hl 1 rfl) ?_
  refine lv_iload_n C.1.1 C.1.2.1 h2 rfl (lv_at hl 0 rfl) ?_
  refine lv_iconst C.1.1 C.1.2.1 h3 hn ?_
  refine lv_iadd C.1.1 C.1.2.1 h4 ?_
  rw [nI_add]
  refine va_sld C.1.1 C.1.2.1 C.1.2.2.2.2.2.2.1 C.1.2.2.2.2.2.2.2.1 (A := fun q => s.heap.size ≤ q) (by have := C.1.2.2.2.2.2.2.2.1; omega) hS (vp_in_nI hk (by omega)) h5 ?_
  rw [nI_clamp (show k + j < 2 ^ 31 by omega)]
  exact kk H locs ls hP hD hS hl
/-- behind a call -/
theorem lk_Lafter {Q' : lk_Q} {st0 : List Value} {aa : Array Value} {H : Heap} {locs : List Loc} {ls : Array Slot} (hA : ∀ q, lk_A X q → s.heap.size ≤ q)
    (hr : va_Run p l e room_1 s m #[Value.ref b] below meth c H locs cc ss 0 0 (F0 m pc ls st0) S (lk_Qc X Q' aa) (lk_A X)) (hS : va_S (fun q => s.heap.size ≤ q) s.heap H locs) (hl : lv_has ls 4 [(3, .int i), (0, .ref b), (1, .ref (X.1 0 0)), (2, .ref (X.1 1 0))])
    (kk : ∀ (r : Option lk_V) (σ' : lk_N) (τ' : lk_T), Q' r σ' τ' → lk_LW l e X p s m below meth c b cc ss (pc + 3) ((r.map (lk_c X.1)).toList ++ S) i σ' τ') : W p l e room_1 s m #[Value.ref b] below meth c H locs cc ss (lw_Z below #[Value.ref b] s) (F0 m pc ls st0) := by
  intro T hT X0
  obtain ⟨v, st₀, t, T', Lc, h0, X', hL, e1, e2, ⟨⟨r, σ', τ', hv, hq, hP, hK, hD⟩, hz, hk⟩, st⟩ := hr T hT X0
  have hv' : v = r.map (lk_c X.1) := by cases hv; rfl
  rw [h0] at hz hk
  have hS' : va_S (fun q => s.heap.size ≤ q) s.heap T'.heap (locs ++ Lc) := ⟨Nat.le_trans hS.1 (by rw [e1]; exact hz), fun q h1 h2 => by rw [e1, hk q (Nat.lt_of_lt_of_le h1 hS.1) (fun z => h2 (hA q z))]; exact hS.2.1 q h1 h2, fun q hq => by
      rcases List.mem_append.mp hq with h | h
      · exact hS.2.2 q h
      · exact hA _ (hL q h)⟩
  obtain ⟨t2, a1, b1⟩ := kk r σ' τ' hq T'.heap (locs ++ Lc) ls (by rw [e1]; exact hP) hD hS' hl T' rfl X'
  refine ⟨t2, st t2 ?_, b1⟩
  subst hv'
  exact a1
theorem lk_Lgood {M' : lk_M} (hc : Cond.code M'.1 M'.2.1 M'.2.2.1 M'.2.2.2 ∈ lk_AW) : GoodIn lw_tbl (lk_wd M') := by
  intro w hw
  have hm : w ∈ lk_AW := by
    rcases List.mem_cons.mp hw with h | h
    · rw [h]; exact hc
    · exact h
  exact ⟨(List.mem_filter.mp hm).1, lk_AW_good w hm⟩
theorem lk_Lcall {M' : lk_M} {d n idx o ci : Nat} {as : List lk_V} {S0 : List Value} {Q' : lk_Q} (C : lk_LC X p s m meth c b L xs cc ss) (hd : decode code pc = .ok (.invokevirtual idx, 3)) (hs : S0 = (as.map (lk_c X.1)).reverse ++ .ref (X.1 o 0) :: S) (cv : lk_cv M' n) (hn : as.length = n) (hl : Cond.methodLink RL idx M'.1 ∈ lk_AW) (hc : lk_ko o = ci) (hci : (vwCl[ci]?).map (fun q => q.1) = some M'.1.cls) (hroom : (S.map fun v => v.category).sum ≤ 8) (hd30 : d ≤ 30)
    (hM : lk_Mt l X M' d (lk_vr o 0 :: as) σ τ Q') (k : ∀ (r : Option lk_V) (σ' : lk_N) (τ' : lk_T), Q' r σ' τ' → lk_LW l e X p s m below meth c b cc ss (pc + 3) ((r.map (lk_c X.1)).toList ++ S) i σ' τ') : lk_LW l e X p s m below meth c b cc ss pc S0 i σ τ := by
  subst hs
  intro H locs ls hP hD hS hl0
  obtain ⟨⟨hx, hb, hr, hml, hown, hts, hX, hbl, hlk, -⟩, hK, hA, hcc, hss, hL⟩ := C
  obtain ⟨w1, w2, w3, w4, ⟨w5, w6, w7⟩, w8⟩ := cv
  have hin : ∀ w ∈ lk_AW, w.before #[Value.ref b] s = true := fun w h => hts w (List.mem_filter.mp h).1
  obtain ⟨q, hq1, hq2⟩ := Option.map_eq_some_iff.mp hci
  have hci10 : ci < 10 := (List.getElem?_eq_some_iff.mp hq1).1
  obtain ⟨q0, hq0, hw0⟩ := lk_at (X := X) (σ := σ) (τ := τ) (lk_mem0 (lk_ko_lt hc hci10))
  have hrec := va_recv hK hP (ci := ci) (q := q) hq1 (q0 := q0) (a := X.1 o 0) (fs := (List.range (lk_nf (lk_ko o))).map (lk_fv X.1 σ τ o)) (by rw [hw0, ← hc]; rfl)
  rw [hq2] at hrec
  have hfb : FrameBlind (va_Pc ((lk_vr o 0 :: as).map (lk_c X.1)) (lk_H X σ τ)) := fun a U g mk q => ⟨q.1, lk_H_calling q.2⟩
  refine lk_Lafter (S := S) hA (va_runV (As := as.map (lk_c X.1)) (n := n) (index := idx) (C := M'.1.cls) (ret := M'.2.2.2) (bytes := M'.2.1) (maxL := M'.2.2.1) ⟨hx, hb, hml, hown, hts⟩ hM ⟨callB_of n hts (lk_Lgood w4) rfl rfl rfl (hin _ w3) (hin _ hl) ⟨w5, w6, w7⟩ ⟨by show d + 1 ≤ 2048; omega, by show 8 + (M'.2.2.1 + 11) + 40 * d ≤ 84000; omega⟩, hin _ w1, hin _ w2⟩ ⟨hfb, hrec, fun U hU hW => ⟨rfl, by rw [hU]; exact hP, va_K.moved hW.alike hK, hD⟩⟩ rfl (by simpa using hn) hl0.1 rfl (lv_room hroom) hd ⟨by show cc + 0 ≤ 600000; omega, by show ss + 0 ≤ 7302249; omega⟩) hS hl0 k
/-- a pair of calls: the class's answer, then the model's -/
theorem lk_Lend (C : lk_LC X p s m meth c b L xs cc ss) (h1 : decode code 1136 = .ok (.iconst 1, 1)) (h2 : decode code 1137 = .ok (.ireturn, 1)) : lk_LW l e X p s m below meth c b cc ss 1136 [] i σ τ := by
  intro H locs ls hP hD hS hl
  refine lv_iconst (v := 1) C.1.1 C.1.2.1 h1 (by decide) ?_
  refine va_forget hS.2.2 (W.widen C.2.2.2.1 C.2.2.2.2.1 ?_)
  exact lw_ret C.1.1 C.1.2.1 C.1.2.2.1 C.1.2.2.2.2.2.2.2.2.1 h2
theorem lk_Leq {x : Int32} {off : Int} (C : lk_LC X p s m meth c b L xs cc ss) (hd : decode code pc = .ok (.if_icmp .eq off, 3)) (ht : (pc : Int) + off = 1130) (k : lk_LW l e X p s m below meth c b cc ss 1130 S i σ τ) : lk_LW l e X p s m below meth c b cc ss pc (.int x :: .int x :: S) i σ τ :=
  fun H locs ls hP hD hS hl => lv_icmp_eq (tgt := 1130) C.1.1 C.1.2.1 hd ht (fun _ => k H locs ls hP hD hS hl) (fun z => absurd rfl z)
theorem lk_Lnext {k : Nat} (C : lk_LC X p s m meth c b L xs cc ss) (h1 : decode code 1130 = .ok (.iinc 3 5, 3)) (h2 : decode code 1133 = .ok (.goto (-1115), 3)) (kk : lk_LW l e X p s m below meth c b cc ss 18 [] (nI (k + 5)) σ τ) : lk_LW l e X p s m below meth c b cc ss 1130 [] (nI k) σ τ := by
  intro H locs ls hP hD hS hl
  refine lv_iinc (k := 0) C.1.1 C.1.2.1 h1 hl rfl (v := nI (k + 5)) (nI_add k 5) (by decide) rfl (fun ls' hl' => ?_)
  refine lv_goto (tgt := 18) C.1.1 C.1.2.1 h2 (by decide) ?_
  exact kk H locs ls' hP hD hS hl'
end LKL
