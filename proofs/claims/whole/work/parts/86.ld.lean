/-! ROWS OF THE CONSTRUCTORS: the object at h0 with its fields, the cells that came after it -/
abbrev lk_ity (cI cB : ClassId) : List (ClassId × FieldType) := [(cI, .int), (cB, .boolean)]
abbrev lk_nest (own : String) (idx : Nat) (y : MethodName) : Cond := .methodLinkNest own idx y "LockStaircase"
def lk_NW (ns : List (String × Nat × MethodName)) (U : State) : Prop := ∀ q ∈ ns, va_Nw (lk_nest q.1 q.2.1 q.2.2) U
theorem lk_NW_warm {ns : List (String × Nat × MethodName)} {s U : State} (hW : s.WarmedH U.vm) (h : lk_NW ns s) : lk_NW ns U := fun q hq => va_Nw.warmM hW (h q hq)
theorem lk_NW_same {ns : List (String × Nat × MethodName)} {s U : State} (e : s.vm = U.vm) (h : lk_NW ns s) : lk_NW ns U := fun q hq => va_Nw.same rfl e (h q hq)
def lk_irm (d mc ms : Nat) : Room := { frames := d, cells := mc, slots := ms, locals := 40 * d }
/-- before a constructor: its object stands there, empty -/
def lk_IB (D : va_G) (cI cB : ClassId) (ns : List (String × Nat × MethodName)) (ci h0 sz : Nat) (fs0 : List Value) (U : State) : Prop := U.heap.size = sz ∧ va_P D vwCl [(h0, .inr (ci, fs0))] U.heap ∧ va_K D vwCl (lk_ity cI cB) U ∧ lk_NW ns U ∧ va_D (fun _ => True) [(h0, .inr (ci, fs0))]
/-- a constructor's contract: behind it W1 stands, at its object and at the new cells u -/
def lk_IM (l : Launch) (D : va_G) (cI cB : ClassId) (ns : List (String × Nat × MethodName)) (M : lk_M) (d mc ms ci : Nat) (fs0 : List Value) (W1 : Nat → (Nat → Nat) → va_W) : Prop :=
  ∀ h0 sz : Nat, Met l M.1 (lk_wd M) (lk_irm d mc ms) (va_Pc [.ref h0] (lk_IB D cI cB ns ci h0 sz fs0)) (va_Qv (fun _ : Nat → Nat => True) (fun u t => va_P D vwCl (W1 h0 u) t.heap ∧ va_D (va_A [(h0, .inr (ci, fs0))] sz) (W1 h0 u)) (va_A [(h0, .inr (ci, fs0))] sz)) mc ms (va_A [(h0, .inr (ci, fs0))] sz)
def lk_IC (D : va_G) (cI cB : ClassId) (ns : List (String × Nat × MethodName)) (M : lk_M) (A : Nat → Prop) (p : Program) (s : State) (m : MethodId) (args : Array Value) (meth : Method) (c : Code) : Prop :=
  p.tables.exec = Jvm.exec ∧ c.code = M.2.1 ∧ meth.sig.returnType = none ∧ c.maxLocals = 1 ∧ s.vm.findClass M.1.cls = some m.cls ∧ (∀ w ∈ lk_AW, w.before args s = true) ∧ meth.name = "<init>" ∧ va_K D vwCl (lk_ity cI cB) s ∧ lk_NW ns s ∧ (∀ q, s.heap.size ≤ q → A q) ∧ meth.locks = false
def lk_IJ (p : Program) (l : Launch) (e : Env) (R : Room) (s : State) (m : MethodId) (args : Array Value) (below : List Frame) (meth : Method) (c : Code) (ls : Array Slot) (Qw : State → Prop) (D : va_G) (A : Nat → Prop) (pc : Nat) (S : List Value) (ws : va_W) (cells slots : Nat) : Prop :=
  ∀ (H : Heap) (locs : List Loc), va_P D vwCl ws H → va_D A ws → va_S A s.heap H locs → W p l e R s m args below meth c H locs cells slots Qw (F0 m pc ls S)
theorem lk_join2 {A0 : Nat → Prop} {D : va_G} {cl : List vw_C} {ws wc w1 : va_W} {H H1 : Heap} (hP : va_P D cl (ws ++ wc) H) (hD : va_D A0 (ws ++ wc)) (hk : ∀ q : Nat, q < H.size → ¬ va_A wc H.size q → H1[q]? = H[q]?) (hF : ∀ q, va_A wc H.size q → A0 q) (hP1 : va_P D cl w1 H1) (hD1 : va_D (va_A wc H.size) w1) : va_P D cl (ws ++ w1) H1 ∧ va_D A0 (ws ++ w1) := by
  have hl : ∀ (k : Nat) (q : Nat × va_E), ws[k]? = some q → (ws ++ wc)[k]? = some q := fun k q h => by rw [List.getElem?_append_left (List.getElem?_eq_some_iff.mp h).1]; exact h
  have hr : ∀ (k : Nat) (q : Nat × va_E), wc[k]? = some q → (ws ++ wc)[ws.length + k]? = some q := fun k q h => by rw [List.getElem?_append_right (Nat.le_add_right _ _), Nat.add_sub_cancel_left]; exact h
  have hn : ∀ (k : Nat) (q : Nat × va_E), ws[k]? = some q → q.1 < H.size ∧ ¬ va_A wc H.size q.1 := by
    intro k q h
    have hlt := (hP k q (hl k q h)).lt
    refine ⟨hlt, ?_⟩
    rintro (⟨j, e, hj⟩ | z)
    · have := hD.1 k (ws.length + j) q (q.1, e) (hl k q h) (hr j _ hj) rfl
      have := (List.getElem?_eq_some_iff.mp h).1
      omega
    · omega
  have hDw : va_D A0 ws := ⟨fun i j p q hi hj => hD.1 i j p q (hl i p hi) (hl j q hj), fun k q h => hD.2 k q (hl k q h)⟩
  have hPw : va_P D cl ws H := fun k q h => hP k q (hl k q h)
  refine ⟨(hPw.kept (fun k q h => hk q.1 (hn k q h).1 (hn k q h).2)).app hP1, hDw.app (hD1.weaken (fun k q h z => hF _ z)) (fun i j p q hp hq e => (hn i p hp).2 ?_)⟩
  rw [e]
  exact hD1.2 j q hq
theorem lk_igood {M' : lk_M} (hc : Cond.code M'.1 M'.2.1 M'.2.2.1 M'.2.2.2 ∈ lk_AW) : GoodIn lk_AW (lk_wd M') := by
  intro w hw
  have hm : w ∈ lk_AW := by
    rcases List.mem_cons.mp hw with h | h
    · rw [h]; exact hc
    · exact h
  exact ⟨hm, lk_AW_good w hm⟩
section LKI
variable {l : Launch} {D : va_G} {cI cB : ClassId} {ns : List (String × Nat × MethodName)} {M : lk_M} {A : Nat → Prop} {p : Program} {e : Env} {R : Room} {s : State} {m : MethodId} {args : Array Value} {below : List Frame} {meth : Method} {c : Code} {ls : Array Slot} {Qw : State → Prop} {h0 pc : Nat} {S : List Value} {ws : va_W} {cells slots : Nat}
theorem lk_cload (C : lk_IC D cI cB ns M A p s m args meth c) (hl : lv_has ls 1 [(0, .ref h0)]) (hd : decode M.2.1 pc = .ok (.aload_n 0, 1)) (k : lk_IJ p l e R s m args below meth c ls Qw D A (pc + 1) (.ref h0 :: S) ws cells slots) : lk_IJ p l e R s m args below meth c ls Qw D A pc S ws cells slots :=
  fun H locs hP hD hS => lv_aload_n C.1 C.2.1 hd rfl (lv_at hl 0 rfl) (k H locs hP hD hS)
theorem lk_ibip {n : Int} {v : Int32} (C : lk_IC D cI cB ns M A p s m args meth c) (hd : decode M.2.1 pc = .ok (.bipush n, 2)) (hv : (Int8.ofInt n).toInt32 = v) (k : lk_IJ p l e R s m args below meth c ls Qw D A (pc + 2) (.int v :: S) ws cells slots) : lk_IJ p l e R s m args below meth c ls Qw D A pc S ws cells slots :=
  fun H locs hP hD hS => lv_bipush C.1 C.2.1 hd hv (k H locs hP hD hS)
theorem lk_isip {n : Int} {v : Int32} (C : lk_IC D cI cB ns M A p s m args meth c) (hd : decode M.2.1 pc = .ok (.sipush n, 3)) (hv : (Int16.ofInt n).toInt32 = v) (k : lk_IJ p l e R s m args below meth c ls Qw D A (pc + 3) (.int v :: S) ws cells slots) : lk_IJ p l e R s m args below meth c ls Qw D A pc S ws cells slots :=
  fun H locs hP hD hS => lv_sipush C.1 C.2.1 hd hv (k H locs hP hD hS)
theorem lk_iico {n : Int} {v : Int32} (C : lk_IC D cI cB ns M A p s m args meth c) (hd : decode M.2.1 pc = .ok (.iconst n, 1)) (hv : Int32.ofInt n = v) (k : lk_IJ p l e R s m args below meth c ls Qw D A (pc + 1) (.int v :: S) ws cells slots) : lk_IJ p l e R s m args below meth c ls Qw D A pc S ws cells slots :=
  fun H locs hP hD hS => lv_iconst C.1 C.2.1 hd hv (k H locs hP hD hS)
theorem lk_iobj {idx : Nat} (C : lk_IC D cI cB ns M A p s m args meth c) (hl : lv_has ls 1 [(0, .ref h0)]) (hd : decode M.2.1 pc = .ok (.invokespecial idx, 3)) (hlk : Cond.methodLink M.1.cls idx objectInit ∈ lk_AW) (hfr : 1 ≤ R.frames) (hlo : 12 ≤ R.locals) (k : lk_IJ p l e R s m args below meth c ls Qw D A (pc + 3) [] ws cells slots) : lk_IJ p l e R s m args below meth c ls Qw D A pc [.ref h0] ws cells slots := by
  intro H locs hP hD hS
  have hts := C.2.2.2.2.2.1
  refine W.objInit C.1 C.2.1 C.2.2.2.2.1 (hts _ hlk) (hts _ wObjI) (hts _ wObjC) rfl (by rw [C.2.2.2.1]; exact hl.1) rfl hd hfr hlo ?_
  exact W.eq (g2 := F0 m (pc + 3) ls []) rfl (k H locs hP hD hS)
theorem lk_inewI {n : Int32} {k : Nat} (C : lk_IC D cI cB ns M A p s m args meth c) (hd : decode M.2.1 pc = .ok (.newarray .int, 2)) (hn : n = nI k) (hk : k ≤ 1000) (hc : cells + 1 ≤ R.cells) (hs : slots + k ≤ R.slots) (kk : ∀ q, lk_IJ p l e R s m args below meth c ls Qw D A (pc + 2) (.ref q :: S) (ws ++ [(q, .inl (cI, k, .inl (fun _ => 0)))]) (cells + 1) (slots + k)) : lk_IJ p l e R s m args below meth c ls Qw D A pc (.int n :: S) ws cells slots := by
  subst hn
  intro H locs hP hD hS
  have hts := C.2.2.2.2.2.1
  refine va_newa (atype := .int) (ty := .int) C.1 C.2.1 (hts _ wArrI) rfl C.2.2.2.2.2.2.2.1 hP hD hS C.2.2.2.2.2.2.2.2.2.1 (N' := k) (a0 := (k, .inl (fun _ => 0))) (fun cA => rfl) (nI_pos (by omega)) (nI_clamp (by omega)) (by show k * 4 ≤ 536870912; omega) hc hs hd (fun q cA H1 hK1 hP1 hD1 hS1 => ?_)
  have e : cA = cI := Option.some.inj (((hK1.2 2 (cA, .int) rfl).2 : s.vm.findClass _ = some cA).symm.trans ((C.2.2.2.2.2.2.2.1.2 0 (cI, .int) rfl).2))
  subst e
  exact kk q H1 locs hP1 hD1 hS1
theorem lk_inewZ {n : Int32} {k : Nat} (C : lk_IC D cI cB ns M A p s m args meth c) (hd : decode M.2.1 pc = .ok (.newarray .boolean, 2)) (hn : n = nI k) (hk : k ≤ 1000) (hc : cells + 1 ≤ R.cells) (hs : slots + k ≤ R.slots) (kk : ∀ q, lk_IJ p l e R s m args below meth c ls Qw D A (pc + 2) (.ref q :: S) (ws ++ [(q, .inl (cB, k, .inl (fun _ => 0)))]) (cells + 1) (slots + k)) : lk_IJ p l e R s m args below meth c ls Qw D A pc (.int n :: S) ws cells slots := by
  subst hn
  intro H locs hP hD hS
  have hts := C.2.2.2.2.2.1
  refine va_newa (atype := .boolean) (ty := .boolean) C.1 C.2.1 (hts _ wArrZ) rfl C.2.2.2.2.2.2.2.1 hP hD hS C.2.2.2.2.2.2.2.2.2.1 (N' := k) (a0 := (k, .inl (fun _ => 0))) (fun cA => rfl) (nI_pos (by omega)) (nI_clamp (by omega)) (by show k * 1 ≤ 536870912; omega) hc hs hd (fun q cA H1 hK1 hP1 hD1 hS1 => ?_)
  have e : cA = cB := Option.some.inj (((hK1.2 2 (cA, .boolean) rfl).2 : s.vm.findClass _ = some cA).symm.trans ((C.2.2.2.2.2.2.2.1.2 1 (cB, .boolean) rfl).2))
  subst e
  exact kk q H1 locs hP1 hD1 hS1
/-- a final field of its own -/
theorem lk_iput {ci f idx q : Nat} {fs : List Value} {pl : va_W} {ty : FieldType} (C : lk_IC D cI cB ns M A p s m args meth c) (hd : decode M.2.1 pc = .ok (.putfield idx, 3)) (hci : ci < 10) (hf : f < lk_nf ci) (hlk : Cond.fieldLink M.1.cls idx M.1.cls (lk_T0 ci f).2.1 (lk_T0 ci f).2.2.1 ∈ lk_AW) (hfin : (lk_T0 ci f).2.2.2 = true) (hdecl : (lk_T0 ci f).1 = M.1.cls) (hty : parseFieldDescriptor (lk_T0 ci f).2.2.1 = some ty) (hn : narrow ty (.ref q) = .ref q) (hfit : fits ty (.ref q) = true) (hlen : f < fs.length)
    (kk : lk_IJ p l e R s m args below meth c ls Qw D A (pc + 3) [] ((h0, .inr (ci, fs.set f (.ref q))) :: pl) cells slots) : lk_IJ p l e R s m args below meth c ls Qw D A pc [.ref q, .ref h0] ((h0, .inr (ci, fs)) :: pl) cells slots := by
  intro H locs hP hD hS
  have hts := C.2.2.2.2.2.1
  obtain ⟨Cn, ty0, h1, h2, h3, h4⟩ := lk_tab ci hci
  refine va_putF (v := .ref q) (ty := ty) (Ts := lk_AW) (T := lk_T0 ci) (N := lk_nf ci) (C := Cn) (ref := M.1.cls) C.1 C.2.1 hts h2 ty0 h3 h4 C.2.2.2.2.1 C.2.2.2.2.2.2.2.1 hP hD hS 0 rfl h1 f hf (hts _ hlk) (fun x h9 => by rw [hdecl] at h9; exact h9) hfin C.2.2.2.2.2.2.1 hdecl hty hn hfit hlen hd (fun H1 locs1 hP1 hD1 hS1 => ?_)
  exact kk H1 locs1 hP1 hD1 hS1
theorem lk_cret {Qc : Array Value → State → Outcome → State → Prop} (C : lk_IC D cI cB ns M A p s m args meth c) (hd : decode M.2.1 pc = .ok (.return_, 1)) (hq : ∀ t : State, va_P D vwCl ws t.heap → va_D A ws → va_F A s t → s.WarmedH t.vm → Qc args s (.returned none) t) : lk_IJ p l e R s m args below meth c ls (MQ below Qc args s cells slots A) D A pc [] ws cells slots := by
  intro H locs hP hD hS
  have hlocks := C.2.2.2.2.2.2.2.2.2.2
  exact W.vret C.1 C.2.1 C.2.2.1 (fun t ht hW => hq t (by rw [ht]; exact hP) hD (hS.F ht) hW) hS.2.2 hd
/-- new, dup, and its private constructor -/
theorem lk_imk {M' : lk_M} {ci' idx ii d' mc' ms' : Nat} {fs' : List Value} {W1 : Nat → (Nat → Nat) → va_W} {S0 : List Value} (C : lk_IC D cI cB ns M A p s m args meth c) (hl : lv_has ls 1 [(0, .ref h0)]) (h1 : decode M.2.1 pc = .ok (.new idx, 3)) (h2 : decode M.2.1 (pc + 3) = .ok (.dup, 1)) (h3 : decode M.2.1 (pc + 4) = .ok (.invokespecial ii, 3)) (hci : ci' < 10) (hfs : ∀ (T : u_T) (ty : Nat → FieldType) (Cn : String), vwCl[ci']? = some (Cn, T, lk_nf ci') → (∀ k, k < lk_nf ci' → parseFieldDescriptor (T k).2.2.1 = some (ty k)) → ∀ j, j < lk_nf ci' → defaultValue (ty j) = vp_V fs' j) (hcn : (vwCl[ci']?).map (fun q => q.1) = some M'.1.cls)
    (hcl : Cond.classLink M.1.cls idx M'.1.cls ∈ lk_AW) (hinst : Cond.instantiable M'.1.cls (lk_nf ci') ∈ lk_AW) (cv : Cond.instanceMethod M'.1 ∈ lk_AW ∧ Cond.initialized M'.1.cls ∈ lk_AW ∧ Cond.code M'.1 M'.2.1 M'.2.2.1 none ∈ lk_AW) (hcode : M'.2.2.2 = none) (hnest : (M.1.cls, ii, M'.1) ∈ ns) (hi : M'.1.name = "<init>") (hdn : M'.1.cls ≠ "java/lang/invoke/MethodHandle" ∧ M'.1.cls ≠ "java/lang/invoke/VarHandle" ∧ (parseMethodDescriptor M'.1.desc).map (fun d => d.parameters.length) = some 0) (hM : lk_IM l D cI cB ns M' d' mc' ms' ci' fs' W1) (hfr : d' + 1 ≤ R.frames) (hlo : 8 + (M'.2.2.1 + 11) + 40 * d' ≤ R.locals) (hc : cells + 1 + mc' ≤ R.cells) (hs : slots + lk_nf ci' + ms' ≤ R.slots) (hS0 : (S0.map fun v => v.category).sum ≤ 7)
    (kk : ∀ (q : Nat) (u : Nat → Nat), lk_IJ p l e R s m args below meth c ls Qw D A (pc + 7) (.ref q :: S0) (ws ++ W1 q u) (cells + 1 + mc') (slots + lk_nf ci' + ms')) : lk_IJ p l e R s m args below meth c ls Qw D A pc S0 ws cells slots := by
  intro H locs hP hD hS
  have hts := C.2.2.2.2.2.1
  obtain ⟨Cn, ty0, t1, t2, t3, t4⟩ := lk_tab ci' hci
  have eC : Cn = M'.1.cls := by rw [t1] at hcn; exact Option.some.inj hcn
  subst eC
  refine va_new (ci := ci') (fs := fs') (Ts := lk_AW) C.1 C.2.1 hts t2 ty0 t3 C.2.2.2.2.1 (hts _ hcl) (hts _ hinst) (hts _ cv.2.1) C.2.2.2.2.2.2.2.1 hP hD hS C.2.2.2.2.2.2.2.2.2.1 t1 (fun j hj => hfs _ ty0 _ t1 t3 j hj) (by omega) (by omega) h1 (fun q H hP hD hS => ?_)
  refine lv_dup C.1 C.2.1 h2 rfl ?_
  have hPc : va_P D vwCl [(q, .inr (ci', fs'))] H := fun k x hx => hP (ws.length + k) x (by rw [List.getElem?_append_right (Nat.le_add_right _ _), Nat.add_sub_cancel_left]; exact hx)
  have hDc : va_D A [(q, .inr (ci', fs'))] := hD.sub [ws.length] (by rfl) (by simp)
  have hFc : ∀ x, va_A [(q, .inr (ci', fs'))] H.size x → A x := by
    rintro x (⟨k, e, hk⟩ | z)
    · exact hDc.2 k _ hk
    · exact C.2.2.2.2.2.2.2.2.2.1 x (Nat.le_trans hS.1 z)
  have hG : GoodIn lk_AW (lk_wd M') := lk_igood (by rw [hcode]; exact cv.2.2)
  refine va_callv (va_runIN (As := []) (rest := .ref q :: S0) (Ts := lk_AW) (n := 0) (host := "LockStaircase") ⟨C.1, C.2.1, C.2.2.2.1, C.2.2.2.2.1, hts⟩ (hM q H.size) ⟨va_cnB 0 hts hG (by rw [lk_wd, hcode]) rfl rfl (C.2.2.2.2.2.2.2.2.1 _ hnest) (hts _ cv.2.1) hdn ⟨hfr, hlo⟩, hi, hts _ cv.1⟩ ⟨fun a U g mk z => ⟨z.1, z.2.1, z.2.2.1, va_K.moved (u := U) (U := U.calling g mk a) (Vm.Alike.refl U.vm) z.2.2.2.1, lk_NW_same rfl z.2.2.2.2.1, z.2.2.2.2.2⟩, fun U hU hW => ⟨rfl, by rw [hU], by rw [hU]; exact hPc, va_K.moved hW.alike C.2.2.2.2.2.2.2.1, lk_NW_warm hW C.2.2.2.2.2.2.2.2.1, hDc.weaken (fun _ _ _ _ => trivial)⟩⟩ rfl rfl hl.1 rfl (lv_room (by simp only [List.map_cons, List.sum_cons]; show 1 + _ ≤ 8; omega)) h3 ⟨hc, hs⟩) hS (fun x _ h => hFc x h) hFc (fun u t H1 locs1 ht hvm h5 hB hz1 hk1 hS1 => ?_)
  rw [ht] at hB
  obtain ⟨hP2, hD2⟩ := lk_join2 hP hD hk1 hFc hB.1 hB.2
  exact kk q u H1 locs1 hP2 hD2 hS1
end LKI
