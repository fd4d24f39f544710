/-! THE CONSTRUCTORS -/
section LKM
variable {l : Launch} {D : va_G} {cI cB : ClassId} {ns : List (String × Nat × MethodName)} {M : lk_M} {d mc ms ci : Nat} {fs0 : List Value} {W1 : Nat → (Nat → Nat) → va_W}
abbrev lk_iQ (D : va_G) (W1 : Nat → (Nat → Nat) → va_W) (h0 : Nat) (A : Nat → Prop) : Array Value → State → Outcome → State → Prop := va_Qv (fun _ : Nat → Nat => True) (fun u t => va_P D vwCl (W1 h0 u) t.heap ∧ va_D A (W1 h0 u)) A
theorem lk_imet (hy : plainName M.1.cls = true) (hi : M.1.name = "<init>") (hM : M.2.2 = (1, none)) (k : ∀ (p : Program) (e : Env) (s : State) (m : MethodId) (args : Array Value) (below : List Frame) (meth : Method) (c : Code) (ls : Array Slot) (A : Nat → Prop) (h0 : Nat), lk_IC D cI cB ns M A p s m args meth c → lv_has ls 1 [(0, .ref h0)] → lk_IJ p l e (lk_irm d mc ms) s m args below meth c ls (MQ below (lk_iQ D W1 h0 A) args s mc ms A) D A 0 [] [(h0, .inr (ci, fs0))] 0 0) : lk_IM l D cI cB ns M d mc ms ci fs0 W1 := by
  intro h0 sz
  obtain ⟨M1, M2, M3⟩ := M
  subst hM
  refine Met.ofW (cc := M2) (maxL := 1) (ret := none) hy rfl ?_
  intro p e s m args below meth c s₁ B hml hv
  obtain ⟨rfl, hsz, hP, hK, hN, hD0⟩ := hv
  have hin : meth.name = "<init>" := by rw [(name_of_methodNamed B.named B.method).1]; exact hi
  subst hsz
  have hD := hD0.self (sz := s.heap.size)
  generalize hAe : va_A [(h0, .inr (ci, fs0))] s.heap.size = A at hD ⊢
  have hl := lv_entry ([.ref h0]) (n := 1) (Nat.le_of_ble_eq_true rfl)
  rw [lg_entry_eq]
  generalize (lg_sl ([.ref h0]) ++ List.replicate (1 - (lg_sl ([.ref h0])).length) Slot.unset).toArray = ls at hl ⊢
  have hl : lv_has ls 1 [(0, .ref h0)] := hl
  exact k p e s m _ below meth c ls A h0 ⟨B.exec, B.bytes, B.returns, hml, findClass_of_methodNamed B.named, fun w hw => atoms_spec (ws := lk_wd (M1, M2, 1, none)) B.pre w (List.mem_cons_of_mem _ hw), hin, hK, hN, fun q h => by rw [← hAe]; exact Or.inr h, B.notSynchronized⟩ hl s.heap [] hP hD va_S.rf
theorem lk_cfin {A : Nat → Prop} {p : Program} {e : Env} {R : Room} {s : State} {m : MethodId} {args : Array Value} {below : List Frame} {meth : Method} {c : Code} {ls : Array Slot} {h0 pc cells slots : Nat} {ws : va_W} (C : lk_IC D cI cB ns M A p s m args meth c) (hd : decode M.2.1 pc = .ok (.return_, 1)) (u : Nat → Nat) (hw : ws = W1 h0 u) : lk_IJ p l e R s m args below meth c ls (MQ below (lk_iQ D W1 h0 A) args s cells slots A) D A pc [] ws cells slots :=
  lk_cret C hd (fun t hP hD hF hW => ⟨⟨u, rfl, trivial, by rw [← hw]; exact hP, by rw [← hw]; exact hD⟩, hF⟩)
end LKM
abbrev zX0 : List Value := [.int 0, .int 0, .null, .null, .null, .null, .null, .null, .null, .null, .null, .null, .int 0]
theorem zX0_ok : ∀ (T : u_T) (ty : Nat → FieldType) (Cn : String), vwCl[0]? = some (Cn, T, lk_nf 0) → (∀ k, k < lk_nf 0 → parseFieldDescriptor (T k).2.2.1 = some (ty k)) → ∀ j, j < lk_nf 0 → defaultValue (ty j) = vp_V zX0 j := by
  intro T ty Cn h1 h2 j hj
  have e : T = TX0 := by cases h1; rfl
  subst e
  have e2 : ty j = tyX0 j := Option.some.inj ((h2 j hj).symm.trans (tyX0_ok j hj))
  rw [e2]
  exact (show ∀ j, j < 13 → defaultValue (tyX0 j) = vp_V zX0 j from fun j hj => match j, hj with | 0, _ => rfl | 1, _ => rfl | 2, _ => rfl | 3, _ => rfl | 4, _ => rfl | 5, _ => rfl | 6, _ => rfl | 7, _ => rfl | 8, _ => rfl | 9, _ => rfl | 10, _ => rfl | 11, _ => rfl | 12, _ => rfl | j + 13, h => absurd h (by omega)) j hj
abbrev zX1 : List Value := [.int 0, .int 0, .int 0, .int 0, .int 0]
theorem zX1_ok : ∀ (T : u_T) (ty : Nat → FieldType) (Cn : String), vwCl[1]? = some (Cn, T, lk_nf 1) → (∀ k, k < lk_nf 1 → parseFieldDescriptor (T k).2.2.1 = some (ty k)) → ∀ j, j < lk_nf 1 → defaultValue (ty j) = vp_V zX1 j := by
  intro T ty Cn h1 h2 j hj
  have e : T = TX1 := by cases h1; rfl
  subst e
  have e2 : ty j = tyX1 j := Option.some.inj ((h2 j hj).symm.trans (tyX1_ok j hj))
  rw [e2]
  exact (show ∀ j, j < 5 → defaultValue (tyX1 j) = vp_V zX1 j from fun j hj => match j, hj with | 0, _ => rfl | 1, _ => rfl | 2, _ => rfl | 3, _ => rfl | 4, _ => rfl | j + 5, h => absurd h (by omega)) j hj
abbrev zX2 : List Value := [.null, .null, .null, .null, .null, .int 0]
theorem zX2_ok : ∀ (T : u_T) (ty : Nat → FieldType) (Cn : String), vwCl[2]? = some (Cn, T, lk_nf 2) → (∀ k, k < lk_nf 2 → parseFieldDescriptor (T k).2.2.1 = some (ty k)) → ∀ j, j < lk_nf 2 → defaultValue (ty j) = vp_V zX2 j := by
  intro T ty Cn h1 h2 j hj
  have e : T = TX2 := by cases h1; rfl
  subst e
  have e2 : ty j = tyX2 j := Option.some.inj ((h2 j hj).symm.trans (tyX2_ok j hj))
  rw [e2]
  exact (show ∀ j, j < 6 → defaultValue (tyX2 j) = vp_V zX2 j from fun j hj => match j, hj with | 0, _ => rfl | 1, _ => rfl | 2, _ => rfl | 3, _ => rfl | 4, _ => rfl | 5, _ => rfl | j + 6, h => absurd h (by omega)) j hj
abbrev zX3 : List Value := [.null, .int 0]
theorem zX3_ok : ∀ (T : u_T) (ty : Nat → FieldType) (Cn : String), vwCl[3]? = some (Cn, T, lk_nf 3) → (∀ k, k < lk_nf 3 → parseFieldDescriptor (T k).2.2.1 = some (ty k)) → ∀ j, j < lk_nf 3 → defaultValue (ty j) = vp_V zX3 j := by
  intro T ty Cn h1 h2 j hj
  have e : T = TX3 := by cases h1; rfl
  subst e
  have e2 : ty j = tyX3 j := Option.some.inj ((h2 j hj).symm.trans (tyX3_ok j hj))
  rw [e2]
  exact (show ∀ j, j < 2 → defaultValue (tyX3 j) = vp_V zX3 j from fun j hj => match j, hj with | 0, _ => rfl | 1, _ => rfl | j + 2, h => absurd h (by omega)) j hj
abbrev zX4 : List Value := [.int 0, .int 0, .int 0]
theorem zX4_ok : ∀ (T : u_T) (ty : Nat → FieldType) (Cn : String), vwCl[4]? = some (Cn, T, lk_nf 4) → (∀ k, k < lk_nf 4 → parseFieldDescriptor (T k).2.2.1 = some (ty k)) → ∀ j, j < lk_nf 4 → defaultValue (ty j) = vp_V zX4 j := by
  intro T ty Cn h1 h2 j hj
  have e : T = TX4 := by cases h1; rfl
  subst e
  have e2 : ty j = tyX4 j := Option.some.inj ((h2 j hj).symm.trans (tyX4_ok j hj))
  rw [e2]
  exact (show ∀ j, j < 3 → defaultValue (tyX4 j) = vp_V zX4 j from fun j hj => match j, hj with | 0, _ => rfl | 1, _ => rfl | 2, _ => rfl | j + 3, h => absurd h (by omega)) j hj
abbrev zX5 : List Value := [.null]
theorem zX5_ok : ∀ (T : u_T) (ty : Nat → FieldType) (Cn : String), vwCl[5]? = some (Cn, T, lk_nf 5) → (∀ k, k < lk_nf 5 → parseFieldDescriptor (T k).2.2.1 = some (ty k)) → ∀ j, j < lk_nf 5 → defaultValue (ty j) = vp_V zX5 j := by
  intro T ty Cn h1 h2 j hj
  have e : T = TX5 := by cases h1; rfl
  subst e
  have e2 : ty j = tyX5 j := Option.some.inj ((h2 j hj).symm.trans (tyX5_ok j hj))
  rw [e2]
  exact (show ∀ j, j < 1 → defaultValue (tyX5 j) = vp_V zX5 j from fun j hj => match j, hj with | 0, _ => rfl | j + 1, h => absurd h (by omega)) j hj
abbrev zX6 : List Value := [.null, .int 0, .int 0, .int 0, .int 0, .int 0, .int 0, .int 0]
theorem zX6_ok : ∀ (T : u_T) (ty : Nat → FieldType) (Cn : String), vwCl[6]? = some (Cn, T, lk_nf 6) → (∀ k, k < lk_nf 6 → parseFieldDescriptor (T k).2.2.1 = some (ty k)) → ∀ j, j < lk_nf 6 → defaultValue (ty j) = vp_V zX6 j := by
  intro T ty Cn h1 h2 j hj
  have e : T = TX6 := by cases h1; rfl
  subst e
  have e2 : ty j = tyX6 j := Option.some.inj ((h2 j hj).symm.trans (tyX6_ok j hj))
  rw [e2]
  exact (show ∀ j, j < 8 → defaultValue (tyX6 j) = vp_V zX6 j from fun j hj => match j, hj with | 0, _ => rfl | 1, _ => rfl | 2, _ => rfl | 3, _ => rfl | 4, _ => rfl | 5, _ => rfl | 6, _ => rfl | 7, _ => rfl | j + 8, h => absurd h (by omega)) j hj
abbrev zX7 : List Value := [.int 0, .int 0, .int 0, .int 0, .int 0]
theorem zX7_ok : ∀ (T : u_T) (ty : Nat → FieldType) (Cn : String), vwCl[7]? = some (Cn, T, lk_nf 7) → (∀ k, k < lk_nf 7 → parseFieldDescriptor (T k).2.2.1 = some (ty k)) → ∀ j, j < lk_nf 7 → defaultValue (ty j) = vp_V zX7 j := by
  intro T ty Cn h1 h2 j hj
  have e : T = TX7 := by cases h1; rfl
  subst e
  have e2 : ty j = tyX7 j := Option.some.inj ((h2 j hj).symm.trans (tyX7_ok j hj))
  rw [e2]
  exact (show ∀ j, j < 5 → defaultValue (tyX7 j) = vp_V zX7 j from fun j hj => match j, hj with | 0, _ => rfl | 1, _ => rfl | 2, _ => rfl | 3, _ => rfl | 4, _ => rfl | j + 5, h => absurd h (by omega)) j hj
abbrev zX8 : List Value := [.null, .null, .null, .long 0, .null, .null, .long 0, .int 0, .null, .null, .null, .null, .null, .null]
theorem zX8_ok : ∀ (T : u_T) (ty : Nat → FieldType) (Cn : String), vwCl[8]? = some (Cn, T, lk_nf 8) → (∀ k, k < lk_nf 8 → parseFieldDescriptor (T k).2.2.1 = some (ty k)) → ∀ j, j < lk_nf 8 → defaultValue (ty j) = vp_V zX8 j := by
  intro T ty Cn h1 h2 j hj
  have e : T = TX8 := by cases h1; rfl
  subst e
  have e2 : ty j = tyX8 j := Option.some.inj ((h2 j hj).symm.trans (tyX8_ok j hj))
  rw [e2]
  exact (show ∀ j, j < 14 → defaultValue (tyX8 j) = vp_V zX8 j from fun j hj => match j, hj with | 0, _ => rfl | 1, _ => rfl | 2, _ => rfl | 3, _ => rfl | 4, _ => rfl | 5, _ => rfl | 6, _ => rfl | 7, _ => rfl | 8, _ => rfl | 9, _ => rfl | 10, _ => rfl | 11, _ => rfl | 12, _ => rfl | 13, _ => rfl | j + 14, h => absurd h (by omega)) j hj
abbrev zX9 : List Value := [.null, .null, .null, .int 0, .long 0, .long 0, .int 0, .int 0, .int 0, .int 0, .int 0, .null, .int 0, .null, .int 0, .int 0, .null, .int 0, .int 0, .int 0, .null, .null, .int 0, .int 0, .int 0, .int 0, .int 0, .null, .null]
theorem zX9_ok : ∀ (T : u_T) (ty : Nat → FieldType) (Cn : String), vwCl[9]? = some (Cn, T, lk_nf 9) → (∀ k, k < lk_nf 9 → parseFieldDescriptor (T k).2.2.1 = some (ty k)) → ∀ j, j < lk_nf 9 → defaultValue (ty j) = vp_V zX9 j := by
  intro T ty Cn h1 h2 j hj
  have e : T = TX9 := by cases h1; rfl
  subst e
  have e2 : ty j = tyX9 j := Option.some.inj ((h2 j hj).symm.trans (tyX9_ok j hj))
  rw [e2]
  exact (show ∀ j, j < 29 → defaultValue (tyX9 j) = vp_V zX9 j from fun j hj => match j, hj with | 0, _ => rfl | 1, _ => rfl | 2, _ => rfl | 3, _ => rfl | 4, _ => rfl | 5, _ => rfl | 6, _ => rfl | 7, _ => rfl | 8, _ => rfl | 9, _ => rfl | 10, _ => rfl | 11, _ => rfl | 12, _ => rfl | 13, _ => rfl | 14, _ => rfl | 15, _ => rfl | 16, _ => rfl | 17, _ => rfl | 18, _ => rfl | 19, _ => rfl | 20, _ => rfl | 21, _ => rfl | 22, _ => rfl | 23, _ => rfl | 24, _ => rfl | 25, _ => rfl | 26, _ => rfl | 27, _ => rfl | 28, _ => rfl | j + 29, h => absurd h (by omega)) j hj
def lk_wo1 (cI cB : ClassId) (q : Nat) (u : Nat → Nat) : va_W := [(q, .inr (1, [.int 0, .int 0, .int 0, .int 0, .int 0]))]
set_option maxRecDepth 4000 in
theorem c_X1 (l : Launch) (D : va_G) (cI cB : ClassId) (ns : List (String × Nat × MethodName)) (hns : True) : lk_IM l D cI cB ns mX1_init 1 0 0 1 zX1 (lk_wo1 cI cB) := by
  refine lk_imet (by decide) rfl rfl (fun p e s m args below meth c ls A h0 C hl => ?_)
  refine lk_cload C hl dX1_init_0 ?_
  refine lk_iobj C hl dX1_init_1 oX1 (Nat.le_of_ble_eq_true rfl) (Nat.le_of_ble_eq_true rfl) ?_
  exact lk_cfin C dX1_init_4 (fun _ => 0) rfl
def lk_wo4 (cI cB : ClassId) (q : Nat) (u : Nat → Nat) : va_W := [(q, .inr (4, [.int 0, .int 0, .int 0]))]
set_option maxRecDepth 4000 in
theorem c_X4 (l : Launch) (D : va_G) (cI cB : ClassId) (ns : List (String × Nat × MethodName)) (hns : True) : lk_IM l D cI cB ns mX4_init 1 0 0 4 zX4 (lk_wo4 cI cB) := by
  refine lk_imet (by decide) rfl rfl (fun p e s m args below meth c ls A h0 C hl => ?_)
  refine lk_cload C hl dX4_init_0 ?_
  refine lk_iobj C hl dX4_init_1 oX4 (Nat.le_of_ble_eq_true rfl) (Nat.le_of_ble_eq_true rfl) ?_
  exact lk_cfin C dX4_init_4 (fun _ => 0) rfl
def lk_wo7 (cI cB : ClassId) (q : Nat) (u : Nat → Nat) : va_W := [(q, .inr (7, [.int 0, .int 0, .int 0, .int 0, .int 0]))]
set_option maxRecDepth 4000 in
theorem c_X7 (l : Launch) (D : va_G) (cI cB : ClassId) (ns : List (String × Nat × MethodName)) (hns : True) : lk_IM l D cI cB ns mX7_init 1 0 0 7 zX7 (lk_wo7 cI cB) := by
  refine lk_imet (by decide) rfl rfl (fun p e s m args below meth c ls A h0 C hl => ?_)
  refine lk_cload C hl dX7_init_0 ?_
  refine lk_iobj C hl dX7_init_1 oX7 (Nat.le_of_ble_eq_true rfl) (Nat.le_of_ble_eq_true rfl) ?_
  exact lk_cfin C dX7_init_4 (fun _ => 0) rfl
def lk_wo3 (cI cB : ClassId) (q : Nat) (u : Nat → Nat) : va_W := [(q, .inr (3, [.ref (u 0), .int 0]))] ++ [(u 0, .inl (cI, 22, .inl (fun _ => 0)))]
set_option maxRecDepth 4000 in
theorem c_X3 (l : Launch) (D : va_G) (cI cB : ClassId) (ns : List (String × Nat × MethodName)) (hns : True) : lk_IM l D cI cB ns mX3_init 1 1 22 3 zX3 (lk_wo3 cI cB) := by
  refine lk_imet (by decide) rfl rfl (fun p e s m args below meth c ls A h0 C hl => ?_)
  refine lk_cload C hl dX3_init_0 ?_
  refine lk_iobj C hl dX3_init_1 oX3 (Nat.le_of_ble_eq_true rfl) (Nat.le_of_ble_eq_true rfl) ?_
  refine lk_cload C hl dX3_init_4 ?_
  refine lk_ibip (v := nI 22) C dX3_init_5 (by decide) ?_
  refine lk_inewI (k := 22) C dX3_init_7 rfl (by decide) (Nat.le_of_ble_eq_true rfl) (Nat.le_of_ble_eq_true rfl) (fun a0 => ?_)
  refine lk_iput (ci := 3) (f := 0) (ty := (.array .int)) C dX3_init_9 (by decide) (by decide) fX3_11 rfl rfl (by decide +kernel) rfl rfl (Nat.le_of_ble_eq_true rfl) ?_
  exact lk_cfin C dX3_init_12 (fun j => [a0].getD j 0) rfl
def lk_wo5 (cI cB : ClassId) (q : Nat) (u : Nat → Nat) : va_W := [(q, .inr (5, [.ref (u 0)]))] ++ [(u 0, .inl (cI, 118, .inl (fun _ => 0)))]
set_option maxRecDepth 4000 in
theorem c_X5 (l : Launch) (D : va_G) (cI cB : ClassId) (ns : List (String × Nat × MethodName)) (hns : True) : lk_IM l D cI cB ns mX5_init 1 1 118 5 zX5 (lk_wo5 cI cB) := by
  refine lk_imet (by decide) rfl rfl (fun p e s m args below meth c ls A h0 C hl => ?_)
  refine lk_cload C hl dX5_init_0 ?_
  refine lk_iobj C hl dX5_init_1 oX5 (Nat.le_of_ble_eq_true rfl) (Nat.le_of_ble_eq_true rfl) ?_
  refine lk_cload C hl dX5_init_4 ?_
  refine lk_ibip (v := nI 118) C dX5_init_5 (by decide) ?_
  refine lk_inewI (k := 118) C dX5_init_7 rfl (by decide) (Nat.le_of_ble_eq_true rfl) (Nat.le_of_ble_eq_true rfl) (fun a0 => ?_)
  refine lk_iput (ci := 5) (f := 0) (ty := (.array .int)) C dX5_init_9 (by decide) (by decide) fX5_11 rfl rfl (by decide +kernel) rfl rfl (Nat.le_of_ble_eq_true rfl) ?_
  exact lk_cfin C dX5_init_12 (fun j => [a0].getD j 0) rfl
def lk_wo6 (cI cB : ClassId) (q : Nat) (u : Nat → Nat) : va_W := [(q, .inr (6, [.ref (u 0), .int 0, .int 0, .int 0, .int 0, .int 0, .int 0, .int 0]))] ++ [(u 0, .inl (cI, 60, .inl (fun _ => 0)))]
set_option maxRecDepth 4000 in
theorem c_X6 (l : Launch) (D : va_G) (cI cB : ClassId) (ns : List (String × Nat × MethodName)) (hns : True) : lk_IM l D cI cB ns mX6_init 1 1 60 6 zX6 (lk_wo6 cI cB) := by
  refine lk_imet (by decide) rfl rfl (fun p e s m args below meth c ls A h0 C hl => ?_)
  refine lk_cload C hl dX6_init_0 ?_
  refine lk_iobj C hl dX6_init_1 oX6 (Nat.le_of_ble_eq_true rfl) (Nat.le_of_ble_eq_true rfl) ?_
  refine lk_cload C hl dX6_init_4 ?_
  refine lk_ibip (v := nI 60) C dX6_init_5 (by decide) ?_
  refine lk_inewI (k := 60) C dX6_init_7 rfl (by decide) (Nat.le_of_ble_eq_true rfl) (Nat.le_of_ble_eq_true rfl) (fun a0 => ?_)
  refine lk_iput (ci := 6) (f := 0) (ty := (.array .int)) C dX6_init_9 (by decide) (by decide) fX6_9 rfl rfl (by decide +kernel) rfl rfl (Nat.le_of_ble_eq_true rfl) ?_
  exact lk_cfin C dX6_init_12 (fun j => [a0].getD j 0) rfl
def lk_wo2 (cI cB : ClassId) (q : Nat) (u : Nat → Nat) : va_W := [(q, .inr (2, [.ref (u 0), .ref (u 1), .ref (u 2), .ref (u 3), .ref (u 4), .int 0]))] ++ [(u 0, .inl (cI, 22, .inl (fun _ => 0)))] ++ [(u 1, .inl (cI, 22, .inl (fun _ => 0)))] ++ [(u 2, .inl (cI, 22, .inl (fun _ => 0)))] ++ [(u 3, .inl (cB, 22, .inl (fun _ => 0)))] ++ [(u 4, .inl (cI, 22, .inl (fun _ => 0)))]
set_option maxRecDepth 4000 in
theorem c_X2 (l : Launch) (D : va_G) (cI cB : ClassId) (ns : List (String × Nat × MethodName)) (hns : True) : lk_IM l D cI cB ns mX2_init 1 5 110 2 zX2 (lk_wo2 cI cB) := by
  refine lk_imet (by decide) rfl rfl (fun p e s m args below meth c ls A h0 C hl => ?_)
  refine lk_cload C hl dX2_init_0 ?_
  refine lk_iobj C hl dX2_init_1 oX2 (Nat.le_of_ble_eq_true rfl) (Nat.le_of_ble_eq_true rfl) ?_
  refine lk_cload C hl dX2_init_4 ?_
  refine lk_ibip (v := nI 22) C dX2_init_5 (by decide) ?_
  refine lk_inewI (k := 22) C dX2_init_7 rfl (by decide) (Nat.le_of_ble_eq_true rfl) (Nat.le_of_ble_eq_true rfl) (fun a0 => ?_)
  refine lk_iput (ci := 2) (f := 0) (ty := (.array .int)) C dX2_init_9 (by decide) (by decide) fX2_11 rfl rfl (by decide +kernel) rfl rfl (Nat.le_of_ble_eq_true rfl) ?_
  refine lk_cload C hl dX2_init_12 ?_
  refine lk_ibip (v := nI 22) C dX2_init_13 (by decide) ?_
  refine lk_inewI (k := 22) C dX2_init_15 rfl (by decide) (Nat.le_of_ble_eq_true rfl) (Nat.le_of_ble_eq_true rfl) (fun a1 => ?_)
  refine lk_iput (ci := 2) (f := 1) (ty := (.array .int)) C dX2_init_17 (by decide) (by decide) fX2_15 rfl rfl (by decide +kernel) rfl rfl (Nat.le_of_ble_eq_true rfl) ?_
  refine lk_cload C hl dX2_init_20 ?_
  refine lk_ibip (v := nI 22) C dX2_init_21 (by decide) ?_
  refine lk_inewI (k := 22) C dX2_init_23 rfl (by decide) (Nat.le_of_ble_eq_true rfl) (Nat.le_of_ble_eq_true rfl) (fun a2 => ?_)
  refine lk_iput (ci := 2) (f := 2) (ty := (.array .int)) C dX2_init_25 (by decide) (by decide) fX2_18 rfl rfl (by decide +kernel) rfl rfl (Nat.le_of_ble_eq_true rfl) ?_
  refine lk_cload C hl dX2_init_28 ?_
  refine lk_ibip (v := nI 22) C dX2_init_29 (by decide) ?_
  refine lk_inewZ (k := 22) C dX2_init_31 rfl (by decide) (Nat.le_of_ble_eq_true rfl) (Nat.le_of_ble_eq_true rfl) (fun a3 => ?_)
  refine lk_iput (ci := 2) (f := 3) (ty := (.array .boolean)) C dX2_init_33 (by decide) (by decide) fX2_21 rfl rfl (by decide +kernel) rfl rfl (Nat.le_of_ble_eq_true rfl) ?_
  refine lk_cload C hl dX2_init_36 ?_
  refine lk_ibip (v := nI 22) C dX2_init_37 (by decide) ?_
  refine lk_inewI (k := 22) C dX2_init_39 rfl (by decide) (Nat.le_of_ble_eq_true rfl) (Nat.le_of_ble_eq_true rfl) (fun a4 => ?_)
  refine lk_iput (ci := 2) (f := 4) (ty := (.array .int)) C dX2_init_41 (by decide) (by decide) fX2_25 rfl rfl (by decide +kernel) rfl rfl (Nat.le_of_ble_eq_true rfl) ?_
  exact lk_cfin C dX2_init_44 (fun j => [a0, a1, a2, a3, a4].getD j 0) rfl
def lk_wo0 (cI cB : ClassId) (q : Nat) (u : Nat → Nat) : va_W := [(q, .inr (0, [.int 0, .int 0, .ref (u 0), .ref (u 1), .ref (u 2), .ref (u 3), .ref (u 4), .ref (u 5), .ref (u 6), .ref (u 7), .ref (u 8), .ref (u 10), .int 0]))] ++ [(u 0, .inl (cI, 6, .inl (fun _ => 0)))] ++ [(u 1, .inl (cI, 6, .inl (fun _ => 0)))] ++ [(u 2, .inl (cI, 6, .inl (fun _ => 0)))] ++ [(u 3, .inl (cB, 6, .inl (fun _ => 0)))] ++ [(u 4, .inl (cI, 7, .inl (fun _ => 0)))] ++ [(u 5, .inl (cI, 7, .inl (fun _ => 0)))] ++ [(u 6, .inl (cI, 7, .inl (fun _ => 0)))] ++ [(u 7, .inl (cI, 7, .inl (fun _ => 0)))] ++ lk_wo5 cI cB (u 8) (fun z => u (9 + z)) ++ lk_wo1 cI cB (u 10) (fun z => u (11 + z))
set_option maxRecDepth 4000 in
theorem c_X0 (l : Launch) (D : va_G) (cI cB : ClassId) (ns : List (String × Nat × MethodName)) (hns : ∀ q ∈ [(RX0, 39, yX5_init), (RX0, 46, yX1_init)], q ∈ ns) : lk_IM l D cI cB ns mX0_init 2 11 176 0 zX0 (lk_wo0 cI cB) := by
  refine lk_imet (by decide) rfl rfl (fun p e s m args below meth c ls A h0 C hl => ?_)
  refine lk_cload C hl dX0_init_0 ?_
  refine lk_iobj C hl dX0_init_1 oX0 (Nat.le_of_ble_eq_true rfl) (Nat.le_of_ble_eq_true rfl) ?_
  refine lk_cload C hl dX0_init_4 ?_
  refine lk_ibip (v := nI 6) C dX0_init_5 (by decide) ?_
  refine lk_inewI (k := 6) C dX0_init_7 rfl (by decide) (Nat.le_of_ble_eq_true rfl) (Nat.le_of_ble_eq_true rfl) (fun a0 => ?_)
  refine lk_iput (ci := 0) (f := 2) (ty := (.array .int)) C dX0_init_9 (by decide) (by decide) fX0_9 rfl rfl (by decide +kernel) rfl rfl (Nat.le_of_ble_eq_true rfl) ?_
  refine lk_cload C hl dX0_init_12 ?_
  refine lk_ibip (v := nI 6) C dX0_init_13 (by decide) ?_
  refine lk_inewI (k := 6) C dX0_init_15 rfl (by decide) (Nat.le_of_ble_eq_true rfl) (Nat.le_of_ble_eq_true rfl) (fun a1 => ?_)
  refine lk_iput (ci := 0) (f := 3) (ty := (.array .int)) C dX0_init_17 (by decide) (by decide) fX0_15 rfl rfl (by decide +kernel) rfl rfl (Nat.le_of_ble_eq_true rfl) ?_
  refine lk_cload C hl dX0_init_20 ?_
  refine lk_ibip (v := nI 6) C dX0_init_21 (by decide) ?_
  refine lk_inewI (k := 6) C dX0_init_23 rfl (by decide) (Nat.le_of_ble_eq_true rfl) (Nat.le_of_ble_eq_true rfl) (fun a2 => ?_)
  refine lk_iput (ci := 0) (f := 4) (ty := (.array .int)) C dX0_init_25 (by decide) (by decide) fX0_18 rfl rfl (by decide +kernel) rfl rfl (Nat.le_of_ble_eq_true rfl) ?_
  refine lk_cload C hl dX0_init_28 ?_
  refine lk_ibip (v := nI 6) C dX0_init_29 (by decide) ?_
  refine lk_inewZ (k := 6) C dX0_init_31 rfl (by decide) (Nat.le_of_ble_eq_true rfl) (Nat.le_of_ble_eq_true rfl) (fun a3 => ?_)
  refine lk_iput (ci := 0) (f := 5) (ty := (.array .boolean)) C dX0_init_33 (by decide) (by decide) fX0_21 rfl rfl (by decide +kernel) rfl rfl (Nat.le_of_ble_eq_true rfl) ?_
  refine lk_cload C hl dX0_init_36 ?_
  refine lk_ibip (v := nI 7) C dX0_init_37 (by decide) ?_
  refine lk_inewI (k := 7) C dX0_init_39 rfl (by decide) (Nat.le_of_ble_eq_true rfl) (Nat.le_of_ble_eq_true rfl) (fun a4 => ?_)
  refine lk_iput (ci := 0) (f := 6) (ty := (.array .int)) C dX0_init_41 (by decide) (by decide) fX0_25 rfl rfl (by decide +kernel) rfl rfl (Nat.le_of_ble_eq_true rfl) ?_
  refine lk_cload C hl dX0_init_44 ?_
  refine lk_ibip (v := nI 7) C dX0_init_45 (by decide) ?_
  refine lk_inewI (k := 7) C dX0_init_47 rfl (by decide) (Nat.le_of_ble_eq_true rfl) (Nat.le_of_ble_eq_true rfl) (fun a5 => ?_)
  refine lk_iput (ci := 0) (f := 7) (ty := (.array .int)) C dX0_init_49 (by decide) (by decide) fX0_28 rfl rfl (by decide +kernel) rfl rfl (Nat.le_of_ble_eq_true rfl) ?_
  refine lk_cload C hl dX0_init_52 ?_
  refine lk_ibip (v := nI 7) C dX0_init_53 (by decide) ?_
  refine lk_inewI (k := 7) C dX0_init_55 rfl (by decide) (Nat.le_of_ble_eq_true rfl) (Nat.le_of_ble_eq_true rfl) (fun a6 => ?_)
  refine lk_iput (ci := 0) (f := 8) (ty := (.array .int)) C dX0_init_57 (by decide) (by decide) fX0_31 rfl rfl (by decide +kernel) rfl rfl (Nat.le_of_ble_eq_true rfl) ?_
  refine lk_cload C hl dX0_init_60 ?_
  refine lk_ibip (v := nI 7) C dX0_init_61 (by decide) ?_
  refine lk_inewI (k := 7) C dX0_init_63 rfl (by decide) (Nat.le_of_ble_eq_true rfl) (Nat.le_of_ble_eq_true rfl) (fun a7 => ?_)
  refine lk_iput (ci := 0) (f := 9) (ty := (.array .int)) C dX0_init_65 (by decide) (by decide) fX0_34 rfl rfl (by decide +kernel) rfl rfl (Nat.le_of_ble_eq_true rfl) ?_
  refine lk_cload C hl dX0_init_68 ?_
  refine lk_imk (M' := mX5_init) (ci' := 5) (d' := 1) (mc' := 1) (ms' := 118) C hl dX0_init_69 dX0_init_72 dX0_init_73 (by decide) zX5_ok rfl gX0_37 nX5 vX5_init rfl (hns _ (List.mem_of_getElem? (i := 0) rfl)) rfl ⟨by decide, by decide, by decide +kernel⟩ (c_X5 l D cI cB ns trivial) (Nat.le_of_ble_eq_true rfl) (Nat.le_of_ble_eq_true rfl) (Nat.le_of_ble_eq_true rfl) (Nat.le_of_ble_eq_true rfl) (Nat.le_of_ble_eq_true rfl) (fun a8 v8 => ?_)
  refine lk_iput (ci := 0) (f := 10) (ty := (.object "LockStaircase$Tally")) C dX0_init_76 (by decide) (by decide) fX0_40 rfl rfl (by decide +kernel) rfl rfl (Nat.le_of_ble_eq_true rfl) ?_
  refine lk_cload C hl dX0_init_79 ?_
  refine lk_imk (M' := mX1_init) (ci' := 1) (d' := 1) (mc' := 0) (ms' := 0) C hl dX0_init_80 dX0_init_83 dX0_init_84 (by decide) zX1_ok rfl gX0_44 nX1 vX1_init rfl (hns _ (List.mem_of_getElem? (i := 1) rfl)) rfl ⟨by decide, by decide, by decide +kernel⟩ (c_X1 l D cI cB ns trivial) (Nat.le_of_ble_eq_true rfl) (Nat.le_of_ble_eq_true rfl) (Nat.le_of_ble_eq_true rfl) (Nat.le_of_ble_eq_true rfl) (Nat.le_of_ble_eq_true rfl) (fun a10 v10 => ?_)
  refine lk_iput (ci := 0) (f := 11) (ty := (.object "LockStaircase$Cause")) C dX0_init_87 (by decide) (by decide) fX0_47 rfl rfl (by decide +kernel) rfl rfl (Nat.le_of_ble_eq_true rfl) ?_
  exact lk_cfin C dX0_init_90 (fun j => [a0, a1, a2, a3, a4, a5, a6, a7, a8, (v8 0), a10].getD j 0) rfl
