/-! THE CONSTRUCTOR OF THE CLASS -/
section LKN
variable {l : Launch} {D : va_G} {cI cB : ClassId} {ns : List (String × Nat × MethodName)} {M : lk_M} {d mc ms ci : Nat} {fs0 : List Value}
theorem lk_imetS {S : Type} {post : S → Prop} {W1 : Nat → S → va_W} (hy : plainName M.1.cls = true) (hi : M.1.name = "<init>") (hM : M.2.2 = (1, none)) (k : ∀ (p : Program) (e : Env) (s : State) (m : MethodId) (args : Array Value) (below : List Frame) (meth : Method) (c : Code) (ls : Array Slot) (A : Nat → Prop) (h0 : Nat), lk_IC D cI cB ns M A p s m args meth c → lv_has ls 1 [(0, .ref h0)] → lk_IJ p l e (lk_irm d mc ms) s m args below meth c ls (MQ below (va_Qv post (fun u t => va_P D vwCl (W1 h0 u) t.heap ∧ va_D A (W1 h0 u)) A) args s mc ms A) D A 0 [] [(h0, .inr (ci, fs0))] 0 0) (h0 sz : Nat) : Met l M.1 (lk_wd M) (lk_irm d mc ms) (va_Pc [.ref h0] (lk_IB D cI cB ns ci h0 sz fs0)) (va_Qv post (fun u t => va_P D vwCl (W1 h0 u) t.heap ∧ va_D (va_A [(h0, .inr (ci, fs0))] sz) (W1 h0 u)) (va_A [(h0, .inr (ci, fs0))] sz)) mc ms (va_A [(h0, .inr (ci, fs0))] sz) := by
  obtain ⟨M1, M2, M3⟩ := M
  subst hM
  refine Met.ofW (cc := M2) (maxL := 1) (ret := none) hy rfl ?_
  intro p e s m args below meth c s₁ B hml hv
  obtain ⟨rfl, hsz, hP, hK, hN, hD0⟩ := hv
  have hin : meth.name = "<init>" := by rw [(name_of_methodNamed B.named B.method).1]; exact hi
  subst hsz
  have hD := hD0.self (sz := s.heap.size)
  generalize hAe : va_A [(h0, .inr (ci, fs0))] s.heap.size = A at hD ⊢
  have hl := lv_entry ([.ref h0]) (n := 1) (Nat.le_of_ble_eq_true rfl)
  rw [lg_entry_eq]
  generalize (lg_sl ([.ref h0]) ++ List.replicate (1 - (lg_sl ([.ref h0])).length) Slot.unset).toArray = ls at hl ⊢
  have hl : lv_has ls 1 [(0, .ref h0)] := hl
  exact k p e s m _ below meth c ls A h0 ⟨B.exec, B.bytes, B.returns, hml, findClass_of_methodNamed B.named, fun w hw => atoms_spec (ws := lk_wd (M1, M2, 1, none)) B.pre w (List.mem_cons_of_mem _ hw), hin, hK, hN, fun q h => by rw [← hAe]; exact Or.inr h, B.notSynchronized⟩ hl s.heap [] hP hD va_S.rf
variable {A : Nat → Prop} {p : Program} {e : Env} {R : Room} {s : State} {m : MethodId} {args : Array Value} {below : List Frame} {meth : Method} {c : Code} {ls : Array Slot} {Qw : State → Prop} {h0 pc : Nat} {ws : va_W} {cells slots : Nat}
theorem lk_iget {f idx a : Nat} {fs : List Value} {S : List Value} (C : lk_IC D cI cB ns M A p s m args meth c) (hd : decode M.2.1 pc = .ok (.getfield idx, 3)) (hci : ci < 10) (hf : f < lk_nf ci) (hlk : Cond.fieldLink M.1.cls idx M.1.cls (lk_T0 ci f).2.1 (lk_T0 ci f).2.2.1 ∈ lk_AW) (hdecl : (lk_T0 ci f).1 = M.1.cls) (he : ws[0]? = some (h0, .inr (ci, fs))) (hv : fs[f]? = some (.ref a))
    (k : lk_IJ p l e R s m args below meth c ls Qw D A (pc + 3) (.ref a :: S) ws cells slots) : lk_IJ p l e R s m args below meth c ls Qw D A pc (.ref h0 :: S) ws cells slots := by
  intro H locs hP hD hS
  have hts := C.2.2.2.2.2.1
  obtain ⟨Cn, ty0, t1, t2, t3, t4⟩ := lk_tab ci hci
  exact va_get (Ts := lk_AW) (T := lk_T0 ci) (N := lk_nf ci) (C := Cn) (ref := M.1.cls) C.1 C.2.1 hts t2 C.2.2.2.2.1 C.2.2.2.2.2.2.2.1 hP 0 he t1 f hf (hts _ hlk) (fun x h9 => by rw [hdecl] at h9; exact h9) hv hd (k H locs hP hD hS)
theorem lk_ireset {idx q t1 t2 : Nat} {x0 x1 : Int32} {a : Nat → Nat} {G0 : Nat → Nat → Int32} {wa wc : va_W} (C : lk_IC D cI cB ns M A p s m args meth c) (hl : lv_has ls 1 [(0, .ref h0)]) (hd : decode M.2.1 pc = .ok (.invokevirtual idx, 3)) (hlk : Cond.methodLink M.1.cls idx yX0_reset ∈ lk_AW) (hw : ws = (wa ++ lk_wG cI cB q x0 x1 a t1 t2 G0) ++ wc) (hfr : 1 ≤ R.frames) (hlo : 22 ≤ R.locals) (hc : cells ≤ R.cells) (hs : slots ≤ R.slots)
    (kk : ∀ G, lk_RP G → lk_IJ p l e R s m args below meth c ls Qw D A (pc + 3) [] ((wa ++ wc) ++ lk_wG cI cB q 2 0 a t1 t2 G) cells slots) : lk_IJ p l e R s m args below meth c ls Qw D A pc [.int 2, .ref q] ws cells slots := by
  subst hw
  intro H locs hP hD hS
  have hP := hP.swap
  have hD := hD.swap
  have hts := C.2.2.2.2.2.1
  have hK := C.2.2.2.2.2.2.2.1
  have hg : ∀ (k : Nat) (x : Nat × va_E), (lk_wG cI cB q x0 x1 a t1 t2 G0)[k]? = some x → ((wa ++ wc) ++ lk_wG cI cB q x0 x1 a t1 t2 G0)[(wa ++ wc).length + k]? = some x := fun k x hx => by rw [List.getElem?_append_right (Nat.le_add_right _ _), Nat.add_sub_cancel_left]; exact hx
  have hPc : va_P D vwCl (lk_wG cI cB q x0 x1 a t1 t2 G0) H := fun k x hx => hP _ x (hg k x hx)
  have hDc : va_D A (lk_wG cI cB q x0 x1 a t1 t2 G0) := ⟨fun i j x y hi hj e => Nat.add_left_cancel (hD.1 _ _ x y (hg i x hi) (hg j y hj) e), fun k x hx => hD.2 _ x (hg k x hx)⟩
  have hFc : ∀ x, va_A (lk_wG cI cB q x0 x1 a t1 t2 G0) H.size x → A x := by
    rintro x (⟨k, e, hk⟩ | z)
    · exact hDc.2 k _ hk
    · exact C.2.2.2.2.2.2.2.2.2.1 x (Nat.le_trans hS.1 z)
  obtain ⟨w1, w2, w3, w4, ⟨w5, w6, w7⟩, w8⟩ := vX0_reset
  have hrec := va_recv hK hPc (ci := 0) (q := (RX0, TX0, 13)) rfl (q0 := 0) (a := q) rfl
  refine va_callv (va_runV (As := [.int 2]) (n := 1) (index := idx) (C := RX0) (ret := none) (bytes := cX0_reset) (maxL := 3) (rest := []) (Ts := lk_AW) ⟨C.1, C.2.1, C.2.2.2.1, C.2.2.2.2.1, hts⟩ (c_reset l D cI cB q H.size t1 t2 x0 x1 a G0) ⟨callB_of 1 hts (lk_igood w4) rfl rfl rfl (hts _ w3) (hts _ hlk) ⟨w5, w6, w7⟩ ⟨hfr, hlo⟩, hts _ w1, hts _ w2⟩ ⟨fun a U g mk z => ⟨z.1, z.2.1, z.2.2.1, va_K.moved (u := U) (U := U.calling g mk a) (Vm.Alike.refl U.vm) z.2.2.2.1, z.2.2.2.2⟩, hrec, fun U hU hW => ⟨rfl, by rw [hU], by rw [hU]; exact hPc, va_K.moved hW.alike hK, hDc.weaken (fun _ _ _ _ => trivial)⟩⟩ rfl rfl hl.1 rfl (lv_room (Nat.le_of_ble_eq_true rfl)) hd ⟨hc, hs⟩) hS (fun x _ h => hFc x h) hFc (fun G t H1 locs1 ht hvm h5 hB hz1 hk1 hS1 => ?_)
  rw [ht] at hB
  obtain ⟨hP2, hD2⟩ := lk_join2 hP hD hk1 hFc hB.1 hB.2
  exact kk G h5 H1 locs1 hP2 hD2 hS1
end LKN

def lk_wo8 (cI cB : ClassId) (q : Nat) (u : Nat → Nat → Nat) (G : Nat → Nat → Int32) : va_W := ([(q, .inr (8, [.ref (u 0 0), .ref (u 0 1), .ref (u 0 2), .long 0, .ref (u 0 3), .ref (u 0 4), .long 0, .int 0, .ref (u 0 5), .ref (u 0 6), .ref (u 0 7), .ref (u 0 8), .ref (u 0 9), .ref (u 0 10)]))] ++ (lk_wo5 cI cB (u 1 8) (fun z => u 1 (9 + z)) ++ lk_wo1 cI cB (u 1 10) (fun z => u 1 (11 + z)) ++ lk_wo2 cI cB (u 0 1) (u 2) ++ lk_wo6 cI cB (u 0 2) (u 3) ++ lk_wo0 cI cB (u 0 3) (u 4) ++ lk_wo2 cI cB (u 0 4) (u 5) ++ lk_wo0 cI cB (u 0 5) (u 6) ++ lk_wo2 cI cB (u 0 6) (u 7) ++ lk_wo3 cI cB (u 0 7) (u 8) ++ lk_wo3 cI cB (u 0 8) (u 9) ++ lk_wo4 cI cB (u 0 9) (u 10) ++ lk_wo7 cI cB (u 0 10) (u 11))) ++ lk_wG cI cB (u 0 0) 2 0 (fun f => u 1 (f - 2)) (u 1 8) (u 1 10) G
def lk_ns : List (String × Nat × MethodName) := [(RX8, 13, yX0_init), (RX8, 20, yX2_init), (RX8, 27, yX6_init), (RX8, 46, yX3_init), (RX8, 56, yX4_init), (RX8, 63, yX7_init), (RX0, 39, yX5_init), (RX0, 46, yX1_init)]
set_option maxRecDepth 4000 in
theorem c_X8 (l : Launch) (D : va_G) (cI cB : ClassId) (h0 sz : Nat) : Met l yX8_init (lk_wd mX8_init) (lk_irm 3 62 1039) (va_Pc [.ref h0] (lk_IB D cI cB lk_ns 8 h0 sz zX8)) (va_Qv (fun u : (Nat → Nat → Nat) × (Nat → Nat → Int32) => lk_RP u.2) (fun u t => va_P D vwCl (lk_wo8 cI cB h0 u.1 u.2) t.heap ∧ va_D (va_A [(h0, .inr (8, zX8))] sz) (lk_wo8 cI cB h0 u.1 u.2)) (va_A [(h0, .inr (8, zX8))] sz)) 62 1039 (va_A [(h0, .inr (8, zX8))] sz) := by
  refine lk_imetS (M := mX8_init) (ns := lk_ns) (W1 := fun q (u : (Nat → Nat → Nat) × (Nat → Nat → Int32)) => lk_wo8 cI cB q u.1 u.2) (post := fun u => lk_RP u.2) (by decide) rfl rfl (fun p e s m args below meth c ls A h0 C hl => ?_) h0 sz
  have hns0 : ∀ q ∈ [(RX0, 39, yX5_init), (RX0, 46, yX1_init)], q ∈ lk_ns := fun q hq => by
    rcases List.mem_cons.mp hq with h | h
    · subst h; exact List.mem_of_getElem? (i := 6) rfl
    · rcases List.mem_cons.mp h with h | h
      · subst h; exact List.mem_of_getElem? (i := 7) rfl
      · cases h
  have hns : ∀ q ∈ lk_ns, q ∈ lk_ns := fun q h => h
  refine lk_cload C hl dX8_init_0 ?_
  refine lk_iobj C hl dX8_init_1 oX8 (Nat.le_of_ble_eq_true rfl) (Nat.le_of_ble_eq_true rfl) ?_
  refine lk_cload C hl dX8_init_4 ?_
  refine lk_imk (M' := mX0_init) (ci' := 0) (d' := 2) (mc' := 11) (ms' := 176) C hl dX8_init_5 dX8_init_8 dX8_init_9 (by decide) zX0_ok rfl gX8_11 nX0 vX0_init rfl (hns _ (List.mem_of_getElem? (i := 0) rfl)) rfl ⟨by decide, by decide, by decide +kernel⟩ (c_X0 l D cI cB lk_ns hns0) (Nat.le_of_ble_eq_true rfl) (Nat.le_of_ble_eq_true rfl) (Nat.le_of_ble_eq_true rfl) (Nat.le_of_ble_eq_true rfl) (Nat.le_of_ble_eq_true rfl) (fun a0 v0 => ?_)
  refine lk_iput (ci := 8) (f := 0) (ty := .object "LockStaircase$Canal") C dX8_init_12 (by decide) (by decide) fX8_14 rfl rfl (by decide +kernel) rfl rfl (Nat.le_of_ble_eq_true rfl) ?_
  refine lk_cload C hl dX8_init_15 ?_
  refine lk_imk (M' := mX2_init) (ci' := 2) (d' := 1) (mc' := 5) (ms' := 110) C hl dX8_init_16 dX8_init_19 dX8_init_20 (by decide) zX2_ok rfl gX8_18 nX2 vX2_init rfl (hns _ (List.mem_of_getElem? (i := 1) rfl)) rfl ⟨by decide, by decide, by decide +kernel⟩ (c_X2 l D cI cB lk_ns trivial) (Nat.le_of_ble_eq_true rfl) (Nat.le_of_ble_eq_true rfl) (Nat.le_of_ble_eq_true rfl) (Nat.le_of_ble_eq_true rfl) (Nat.le_of_ble_eq_true rfl) (fun a12 v12 => ?_)
  refine lk_iput (ci := 8) (f := 1) (ty := .object "LockStaircase$Fleet") C dX8_init_23 (by decide) (by decide) fX8_21 rfl rfl (by decide +kernel) rfl rfl (Nat.le_of_ble_eq_true rfl) ?_
  refine lk_cload C hl dX8_init_26 ?_
  refine lk_imk (M' := mX6_init) (ci' := 6) (d' := 1) (mc' := 1) (ms' := 60) C hl dX8_init_27 dX8_init_30 dX8_init_31 (by decide) zX6_ok rfl gX8_25 nX6 vX6_init rfl (hns _ (List.mem_of_getElem? (i := 2) rfl)) rfl ⟨by decide, by decide, by decide +kernel⟩ (c_X6 l D cI cB lk_ns trivial) (Nat.le_of_ble_eq_true rfl) (Nat.le_of_ble_eq_true rfl) (Nat.le_of_ble_eq_true rfl) (Nat.le_of_ble_eq_true rfl) (Nat.le_of_ble_eq_true rfl) (fun a18 v18 => ?_)
  refine lk_iput (ci := 8) (f := 2) (ty := .object "LockStaircase$Tape") C dX8_init_34 (by decide) (by decide) fX8_28 rfl rfl (by decide +kernel) rfl rfl (Nat.le_of_ble_eq_true rfl) ?_
  refine lk_cload C hl dX8_init_37 ?_
  refine lk_imk (M' := mX0_init) (ci' := 0) (d' := 2) (mc' := 11) (ms' := 176) C hl dX8_init_38 dX8_init_41 dX8_init_42 (by decide) zX0_ok rfl gX8_11 nX0 vX0_init rfl (hns _ (List.mem_of_getElem? (i := 0) rfl)) rfl ⟨by decide, by decide, by decide +kernel⟩ (c_X0 l D cI cB lk_ns hns0) (Nat.le_of_ble_eq_true rfl) (Nat.le_of_ble_eq_true rfl) (Nat.le_of_ble_eq_true rfl) (Nat.le_of_ble_eq_true rfl) (Nat.le_of_ble_eq_true rfl) (fun a20 v20 => ?_)
  refine lk_iput (ci := 8) (f := 4) (ty := .object "LockStaircase$Canal") C dX8_init_45 (by decide) (by decide) fX8_32 rfl rfl (by decide +kernel) rfl rfl (Nat.le_of_ble_eq_true rfl) ?_
  refine lk_cload C hl dX8_init_48 ?_
  refine lk_imk (M' := mX2_init) (ci' := 2) (d' := 1) (mc' := 5) (ms' := 110) C hl dX8_init_49 dX8_init_52 dX8_init_53 (by decide) zX2_ok rfl gX8_18 nX2 vX2_init rfl (hns _ (List.mem_of_getElem? (i := 1) rfl)) rfl ⟨by decide, by decide, by decide +kernel⟩ (c_X2 l D cI cB lk_ns trivial) (Nat.le_of_ble_eq_true rfl) (Nat.le_of_ble_eq_true rfl) (Nat.le_of_ble_eq_true rfl) (Nat.le_of_ble_eq_true rfl) (Nat.le_of_ble_eq_true rfl) (fun a32 v32 => ?_)
  refine lk_iput (ci := 8) (f := 5) (ty := .object "LockStaircase$Fleet") C dX8_init_56 (by decide) (by decide) fX8_35 rfl rfl (by decide +kernel) rfl rfl (Nat.le_of_ble_eq_true rfl) ?_
  refine lk_cload C hl dX8_init_59 ?_
  refine lk_imk (M' := mX0_init) (ci' := 0) (d' := 2) (mc' := 11) (ms' := 176) C hl dX8_init_60 dX8_init_63 dX8_init_64 (by decide) zX0_ok rfl gX8_11 nX0 vX0_init rfl (hns _ (List.mem_of_getElem? (i := 0) rfl)) rfl ⟨by decide, by decide, by decide +kernel⟩ (c_X0 l D cI cB lk_ns hns0) (Nat.le_of_ble_eq_true rfl) (Nat.le_of_ble_eq_true rfl) (Nat.le_of_ble_eq_true rfl) (Nat.le_of_ble_eq_true rfl) (Nat.le_of_ble_eq_true rfl) (fun a38 v38 => ?_)
  refine lk_iput (ci := 8) (f := 8) (ty := .object "LockStaircase$Canal") C dX8_init_67 (by decide) (by decide) fX8_38 rfl rfl (by decide +kernel) rfl rfl (Nat.le_of_ble_eq_true rfl) ?_
  refine lk_cload C hl dX8_init_70 ?_
  refine lk_imk (M' := mX2_init) (ci' := 2) (d' := 1) (mc' := 5) (ms' := 110) C hl dX8_init_71 dX8_init_74 dX8_init_75 (by decide) zX2_ok rfl gX8_18 nX2 vX2_init rfl (hns _ (List.mem_of_getElem? (i := 1) rfl)) rfl ⟨by decide, by decide, by decide +kernel⟩ (c_X2 l D cI cB lk_ns trivial) (Nat.le_of_ble_eq_true rfl) (Nat.le_of_ble_eq_true rfl) (Nat.le_of_ble_eq_true rfl) (Nat.le_of_ble_eq_true rfl) (Nat.le_of_ble_eq_true rfl) (fun a50 v50 => ?_)
  refine lk_iput (ci := 8) (f := 9) (ty := .object "LockStaircase$Fleet") C dX8_init_78 (by decide) (by decide) fX8_41 rfl rfl (by decide +kernel) rfl rfl (Nat.le_of_ble_eq_true rfl) ?_
  refine lk_cload C hl dX8_init_81 ?_
  refine lk_imk (M' := mX3_init) (ci' := 3) (d' := 1) (mc' := 1) (ms' := 22) C hl dX8_init_82 dX8_init_85 dX8_init_86 (by decide) zX3_ok rfl gX8_44 nX3 vX3_init rfl (hns _ (List.mem_of_getElem? (i := 3) rfl)) rfl ⟨by decide, by decide, by decide +kernel⟩ (c_X3 l D cI cB lk_ns trivial) (Nat.le_of_ble_eq_true rfl) (Nat.le_of_ble_eq_true rfl) (Nat.le_of_ble_eq_true rfl) (Nat.le_of_ble_eq_true rfl) (Nat.le_of_ble_eq_true rfl) (fun a56 v56 => ?_)
  refine lk_iput (ci := 8) (f := 10) (ty := .object "LockStaircase$Line") C dX8_init_89 (by decide) (by decide) fX8_47 rfl rfl (by decide +kernel) rfl rfl (Nat.le_of_ble_eq_true rfl) ?_
  refine lk_cload C hl dX8_init_92 ?_
  refine lk_imk (M' := mX3_init) (ci' := 3) (d' := 1) (mc' := 1) (ms' := 22) C hl dX8_init_93 dX8_init_96 dX8_init_97 (by decide) zX3_ok rfl gX8_44 nX3 vX3_init rfl (hns _ (List.mem_of_getElem? (i := 3) rfl)) rfl ⟨by decide, by decide, by decide +kernel⟩ (c_X3 l D cI cB lk_ns trivial) (Nat.le_of_ble_eq_true rfl) (Nat.le_of_ble_eq_true rfl) (Nat.le_of_ble_eq_true rfl) (Nat.le_of_ble_eq_true rfl) (Nat.le_of_ble_eq_true rfl) (fun a58 v58 => ?_)
  refine lk_iput (ci := 8) (f := 11) (ty := .object "LockStaircase$Line") C dX8_init_100 (by decide) (by decide) fX8_51 rfl rfl (by decide +kernel) rfl rfl (Nat.le_of_ble_eq_true rfl) ?_
  refine lk_cload C hl dX8_init_103 ?_
  refine lk_imk (M' := mX4_init) (ci' := 4) (d' := 1) (mc' := 0) (ms' := 0) C hl dX8_init_104 dX8_init_107 dX8_init_108 (by decide) zX4_ok rfl gX8_54 nX4 vX4_init rfl (hns _ (List.mem_of_getElem? (i := 4) rfl)) rfl ⟨by decide, by decide, by decide +kernel⟩ (c_X4 l D cI cB lk_ns trivial) (Nat.le_of_ble_eq_true rfl) (Nat.le_of_ble_eq_true rfl) (Nat.le_of_ble_eq_true rfl) (Nat.le_of_ble_eq_true rfl) (Nat.le_of_ble_eq_true rfl) (fun a60 v60 => ?_)
  refine lk_iput (ci := 8) (f := 12) (ty := .object "LockStaircase$RuleRun") C dX8_init_111 (by decide) (by decide) fX8_57 rfl rfl (by decide +kernel) rfl rfl (Nat.le_of_ble_eq_true rfl) ?_
  refine lk_cload C hl dX8_init_114 ?_
  refine lk_imk (M' := mX7_init) (ci' := 7) (d' := 1) (mc' := 0) (ms' := 0) C hl dX8_init_115 dX8_init_118 dX8_init_119 (by decide) zX7_ok rfl gX8_61 nX7 vX7_init rfl (hns _ (List.mem_of_getElem? (i := 5) rfl)) rfl ⟨by decide, by decide, by decide +kernel⟩ (c_X7 l D cI cB lk_ns trivial) (Nat.le_of_ble_eq_true rfl) (Nat.le_of_ble_eq_true rfl) (Nat.le_of_ble_eq_true rfl) (Nat.le_of_ble_eq_true rfl) (Nat.le_of_ble_eq_true rfl) (fun a61 v61 => ?_)
  refine lk_iput (ci := 8) (f := 13) (ty := .object "LockStaircase$Weaving") C dX8_init_122 (by decide) (by decide) fX8_64 rfl rfl (by decide +kernel) rfl rfl (Nat.le_of_ble_eq_true rfl) ?_
  refine lk_cload C hl dX8_init_125 ?_
  refine lk_iget (ci := 8) (f := 0) C dX8_init_126 (by decide) (by decide) fX8_14 rfl rfl rfl ?_
  refine lk_iico (v := 2) C dX8_init_129 (by decide) ?_
  have e0 : lk_wo0 cI cB a0 v0 = lk_wG cI cB a0 0 0 (fun f => v0 (f - 2)) (v0 8) (v0 10) (fun _ _ => 0) ++ (lk_wo5 cI cB (v0 8) (fun z => v0 (9 + z)) ++ lk_wo1 cI cB (v0 10) (fun z => v0 (11 + z))) := rfl
  refine lk_ireset (wa := [(h0, .inr (8, [.ref (a0), .ref (a12), .ref (a18), .long 0, .ref (a20), .ref (a32), .long 0, .int 0, .ref (a38), .ref (a50), .ref (a56), .ref (a58), .ref (a60), .ref (a61)]))]) (wc := lk_wo5 cI cB (v0 8) (fun z => v0 (9 + z)) ++ lk_wo1 cI cB (v0 10) (fun z => v0 (11 + z)) ++ lk_wo2 cI cB a12 v12 ++ lk_wo6 cI cB a18 v18 ++ lk_wo0 cI cB a20 v20 ++ lk_wo2 cI cB a32 v32 ++ lk_wo0 cI cB a38 v38 ++ lk_wo2 cI cB a50 v50 ++ lk_wo3 cI cB a56 v56 ++ lk_wo3 cI cB a58 v58 ++ lk_wo4 cI cB a60 v60 ++ lk_wo7 cI cB a61 v61) (a := fun f => v0 (f - 2)) (t1 := v0 8) (t2 := v0 10) (x0 := 0) (x1 := 0) (G0 := fun _ _ => 0) C hl dX8_init_130 lX8_68 (by simp only [e0, List.append_eq, List.nil_append, List.cons_append, List.append_assoc]; rfl) (Nat.le_of_ble_eq_true rfl) (Nat.le_of_ble_eq_true rfl) (Nat.le_of_ble_eq_true rfl) (Nat.le_of_ble_eq_true rfl) (fun G hG => ?_)
  exact lk_cret C dX8_init_133 (fun t hP hD hF hW => ⟨⟨(fun i => [(fun k => [a0, a12, a18, a20, a32, a38, a50, a56, a58, a60, a61].getD k 0), v0, v12, v18, v20, v32, v38, v50, v56, v58, v60, v61].getD i (fun _ => 0), G), rfl, hG, hP, hD⟩, hF⟩)
