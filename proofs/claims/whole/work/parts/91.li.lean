/-! THE CONSTRUCTOR OF THE MODEL -/
section LKQ
variable {l : Launch} {D : va_G} {cI cB : ClassId} {ns : List (String × Nat × MethodName)} {M : lk_M} {A : Nat → Prop} {p : Program} {e : Env} {R : Room} {s : State} {m : MethodId} {args : Array Value} {below : List Frame} {meth : Method} {c : Code} {ls : Array Slot} {Qw : State → Prop} {h0 pc : Nat} {ws : va_W} {cells slots : Nat}
theorem lk_D_own {X : lk_G} {σ : lk_N} {τ : lk_T} (h : va_D A (lk_ws X σ τ)) : va_D (lk_A X) (lk_ws X σ τ) := ⟨h.1, fun k q hk => by
  obtain ⟨x, hx, e⟩ := List.mem_map.mp (List.mem_of_getElem? hk)
  exact ⟨x, hx, by rw [← e]⟩⟩
theorem lk_A_in {X : lk_G} {σ : lk_N} {τ : lk_T} (h : va_D A (lk_ws X σ τ)) : ∀ a, lk_A X a → A a := by
  rintro a ⟨x, hx, rfl⟩
  exact (lk_D_nodup.mp h).2 (X.1 x.1 x.2, lk_e X σ τ x) (List.mem_map.mpr ⟨x, hx, rfl⟩)
theorem lk_ibegins {γ : Nat → Nat → Nat} {σ : lk_N} {τ : lk_T} {idx : Nat} (C : lk_IC D cI cB ns M A p s m args meth c) (hl : lv_has ls 1 [(0, .ref h0)]) (hd : decode M.2.1 pc = .ok (.invokevirtual idx, 3)) (hlk : Cond.methodLink M.1.cls idx yX9_begins ∈ lk_AW) (hp : ws.Perm (lk_ws (γ, D, cI, cB) σ τ)) (hfr : 1 ≤ R.frames) (hlo : 40 ≤ R.locals) (hc : cells ≤ R.cells) (hs : slots ≤ R.slots)
    (kk : lk_IJ p l e R s m args below meth c ls Qw D A (pc + 3) [] (lk_ws (γ, D, cI, cB) (lk_sw σ 1 0 (lk_bgn 2 (σ 1 0))) τ) cells slots) : lk_IJ p l e R s m args below meth c ls Qw D A pc [.int 2, .ref (γ 1 0)] ws cells slots := by
  intro H locs hP hD hS
  have hP := lk_P_perm hp hP
  have hD := lk_D_perm hp hD
  have hDs := lk_D_own hD
  have hAs := lk_A_in hD
  have hts := C.2.2.2.2.2.1
  have hK : va_K D vwCl (lk_tys (γ, D, cI, cB)) s := C.2.2.2.2.2.2.2.1
  obtain ⟨w1, w2, w3, w4, ⟨w5, w6, w7⟩, w8⟩ := vX9_begins
  obtain ⟨q0, hq0, hw0⟩ := lk_at (X := (γ, D, cI, cB)) (σ := σ) (τ := τ) (lk_mem0 (show 1 < 19 by decide))
  have hrec := va_recv hK hP (ci := 9) (q := (RX9, TX9, 29)) rfl (q0 := q0) (a := γ 1 0) (fs := (List.range (lk_nf (lk_ko 1))).map (lk_fv γ σ τ 1)) (by rw [hw0]; rfl)
  have hfb : FrameBlind (va_Pc ([lk_vr 1 0, lk_vi 2].map (lk_c γ)) (lk_H (γ, D, cI, cB) σ τ)) := fun a U g mk q => ⟨q.1, lk_H_calling q.2⟩
  have hr := fun (T : State) (hT : T.heap = H) (X0 : Stand p l e R s m args below meth c T locs cells slots) => (va_runV (As := [.int 2]) (n := 1) (index := idx) (C := RX9) (ret := none) (bytes := cX9_begins) (maxL := mX9_begins.2.2.1) (rest := []) (Ts := lk_AW) (b := γ 1 0) (cells := cells) (slots := slots) (g := F0 m pc ls [.int 2, .ref (γ 1 0)]) (H := H) ⟨C.1, C.2.1, C.2.2.2.1, C.2.2.2.2.1, hts⟩ (tX9_begins l (γ, D, cI, cB) 0 σ τ 2) ⟨callB_of 1 hts (lk_igood w4) rfl rfl rfl (hts _ w3) (hts _ hlk) ⟨w5, w6, w7⟩ ⟨by show 0 + 1 ≤ R.frames; omega, by show 8 + (mX9_begins.2.2.1 + 11) + 40 * 0 ≤ R.locals; omega⟩, hts _ w1, hts _ w2⟩ ⟨hfb, hrec, fun U hU hW => ⟨rfl, by rw [hU]; exact hP, va_K.moved hW.alike hK, hDs⟩⟩ rfl rfl hl.1 rfl (lv_room (Nat.le_of_ble_eq_true rfl)) hd ⟨hc, hs⟩ : va_Run p l e R s m args below meth c H locs cells slots 0 0 _ _ _ _) T hT X0
  intro T hT X0
  obtain ⟨v, st₀, t, T', Lc, h0', X', hL, e1, e2, ⟨⟨r, σ', τ', hv, ⟨z1, z2, z3⟩, hP1, hK1, hD1⟩, hz, hk⟩, st⟩ := hr T hT X0
  subst z1; subst z2; subst z3
  have hv' : v = none := by cases hv; rfl
  subst hv'
  rw [h0'] at hz hk
  have hS' : va_S A s.heap T'.heap (locs ++ Lc) := ⟨Nat.le_trans hS.1 (by rw [e1]; exact hz), fun q h1 h2 => by rw [e1, hk q (Nat.lt_of_lt_of_le h1 hS.1) (fun z => h2 (hAs q z))]; exact hS.2.1 q h1 h2, fun q hq => by
      rcases List.mem_append.mp hq with h | h
      · exact hS.2.2 q h
      · exact hAs _ (hL q h)⟩
  obtain ⟨t2, a1, b1⟩ := kk T'.heap (locs ++ Lc) (by rw [e1]; exact hP1) (lk_D_any hD) hS' T' rfl X'
  exact ⟨t2, st t2 a1, b1⟩
end LKQ
def lk_s1 (G : Nat → Nat → Int32) : lk_N := lk_sw (lk_s0 G) 1 0 (lk_bgn 2 (lk_s0 G 1 0))
set_option maxRecDepth 4000 in
theorem c_X9 (l : Launch) (D : va_G) (cI cB : ClassId) (q : Nat) (u : Nat → Nat → Nat) (G : Nat → Nat → Int32) (h9 sz : Nat) : Met l yX9_init (lk_wd mX9_init) (lk_irm 1 10 877) (va_Pc [.ref h9] (fun U => U.heap.size = sz ∧ va_P D vwCl ((h9, .inr (9, zX9)) :: lk_wo8 cI cB q u G : va_W) U.heap ∧ va_K D vwCl (lk_ity cI cB) U ∧ va_D (fun _ => True) ((h9, .inr (9, zX9)) :: lk_wo8 cI cB q u G : va_W))) (va_Qv (fun _ : Nat → Nat => True) (fun v t => va_P D vwCl (lk_ws (lk_X0 D cI cB q u h9 v) (lk_s1 G) lk_t0) t.heap ∧ va_D (va_A ((h9, .inr (9, zX9)) :: lk_wo8 cI cB q u G : va_W) sz) (lk_ws (lk_X0 D cI cB q u h9 v) (lk_s1 G) lk_t0)) (va_A ((h9, .inr (9, zX9)) :: lk_wo8 cI cB q u G : va_W) sz)) 10 877 (va_A ((h9, .inr (9, zX9)) :: lk_wo8 cI cB q u G : va_W) sz) := by
  refine Met.ofW (cc := cX9_init) (maxL := 1) (ret := none) (by decide) rfl ?_
  intro p e s m args below meth c s₁ B hml hv
  obtain ⟨rfl, hsz, hP, hK, hD0⟩ := hv
  have hin : meth.name = "<init>" := (name_of_methodNamed B.named B.method).1
  subst hsz
  have hD := hD0.self (sz := s.heap.size)
  generalize hAe : va_A ((h9, .inr (9, zX9)) :: lk_wo8 cI cB q u G : va_W) s.heap.size = A at hD ⊢
  have hl := lv_entry ([.ref h9]) (n := 1) (Nat.le_of_ble_eq_true rfl)
  rw [lg_entry_eq]
  generalize (lg_sl ([.ref h9]) ++ List.replicate (1 - (lg_sl ([.ref h9])).length) Slot.unset).toArray = ls at hl ⊢
  have hl : lv_has ls 1 [(0, .ref h9)] := hl
  have C : lk_IC D cI cB [] mX9_init A p s m #[.ref h9] meth c := ⟨B.exec, B.bytes, B.returns, hml, findClass_of_methodNamed B.named, fun w hw => atoms_spec (ws := lk_wd mX9_init) B.pre w (List.mem_cons_of_mem _ hw), hin, hK, (fun q hq => by cases hq), fun q h => by rw [← hAe]; exact Or.inr h, B.notSynchronized⟩
  suffices K : lk_IJ p l e (lk_irm 1 10 877) s m #[.ref h9] below meth c ls (MQ below (va_Qv (fun _ : Nat → Nat => True) (fun v t => va_P D vwCl (lk_ws (lk_X0 D cI cB q u h9 v) (lk_s1 G) lk_t0) t.heap ∧ va_D A (lk_ws (lk_X0 D cI cB q u h9 v) (lk_s1 G) lk_t0)) A) #[.ref h9] s 10 877 A) D A 0 [] ((h9, .inr (9, zX9)) :: lk_wo8 cI cB q u G : va_W) 0 0 from K s.heap [] hP hD va_S.rf
  refine lk_cload C hl dX9_init_0 ?_
  refine lk_iobj C hl dX9_init_1 oX9 (Nat.le_of_ble_eq_true rfl) (Nat.le_of_ble_eq_true rfl) ?_
  refine lk_cload C hl dX9_init_4 ?_
  refine lk_isip (v := nI 235) C dX9_init_5 (by decide) ?_
  refine lk_inewI (k := 235) C dX9_init_8 rfl (by decide) (Nat.le_of_ble_eq_true rfl) (Nat.le_of_ble_eq_true rfl) (fun a0 => ?_)
  refine lk_iput (ci := 9) (f := 0) (ty := .array .int) C dX9_init_10 (by decide) (by decide) fX9_9 rfl rfl (by decide +kernel) rfl rfl (Nat.le_of_ble_eq_true rfl) ?_
  refine lk_cload C hl dX9_init_13 ?_
  refine lk_isip (v := nI 235) C dX9_init_14 (by decide) ?_
  refine lk_inewI (k := 235) C dX9_init_17 rfl (by decide) (Nat.le_of_ble_eq_true rfl) (Nat.le_of_ble_eq_true rfl) (fun a1 => ?_)
  refine lk_iput (ci := 9) (f := 1) (ty := .array .int) C dX9_init_19 (by decide) (by decide) fX9_15 rfl rfl (by decide +kernel) rfl rfl (Nat.le_of_ble_eq_true rfl) ?_
  refine lk_cload C hl dX9_init_22 ?_
  refine lk_isip (v := nI 235) C dX9_init_23 (by decide) ?_
  refine lk_inewI (k := 235) C dX9_init_26 rfl (by decide) (Nat.le_of_ble_eq_true rfl) (Nat.le_of_ble_eq_true rfl) (fun a2 => ?_)
  refine lk_iput (ci := 9) (f := 2) (ty := .array .int) C dX9_init_28 (by decide) (by decide) fX9_18 rfl rfl (by decide +kernel) rfl rfl (Nat.le_of_ble_eq_true rfl) ?_
  refine lk_cload C hl dX9_init_31 ?_
  refine lk_iico (v := nI 4) C dX9_init_32 (by decide) ?_
  refine lk_inewI (k := 4) C dX9_init_33 rfl (by decide) (Nat.le_of_ble_eq_true rfl) (Nat.le_of_ble_eq_true rfl) (fun a3 => ?_)
  refine lk_iput (ci := 9) (f := 11) (ty := .array .int) C dX9_init_35 (by decide) (by decide) fX9_21 rfl rfl (by decide +kernel) rfl rfl (Nat.le_of_ble_eq_true rfl) ?_
  refine lk_cload C hl dX9_init_38 ?_
  refine lk_ibip (v := nI 60) C dX9_init_39 (by decide) ?_
  refine lk_inewI (k := 60) C dX9_init_41 rfl (by decide) (Nat.le_of_ble_eq_true rfl) (Nat.le_of_ble_eq_true rfl) (fun a4 => ?_)
  refine lk_iput (ci := 9) (f := 13) (ty := .array .int) C dX9_init_43 (by decide) (by decide) fX9_24 rfl rfl (by decide +kernel) rfl rfl (Nat.le_of_ble_eq_true rfl) ?_
  refine lk_cload C hl dX9_init_46 ?_
  refine lk_ibip (v := nI 60) C dX9_init_47 (by decide) ?_
  refine lk_inewI (k := 60) C dX9_init_49 rfl (by decide) (Nat.le_of_ble_eq_true rfl) (Nat.le_of_ble_eq_true rfl) (fun a5 => ?_)
  refine lk_iput (ci := 9) (f := 16) (ty := .array .int) C dX9_init_51 (by decide) (by decide) fX9_27 rfl rfl (by decide +kernel) rfl rfl (Nat.le_of_ble_eq_true rfl) ?_
  refine lk_cload C hl dX9_init_54 ?_
  refine lk_ibip (v := nI 12) C dX9_init_55 (by decide) ?_
  refine lk_inewI (k := 12) C dX9_init_57 rfl (by decide) (Nat.le_of_ble_eq_true rfl) (Nat.le_of_ble_eq_true rfl) (fun a6 => ?_)
  refine lk_iput (ci := 9) (f := 20) (ty := .array .int) C dX9_init_59 (by decide) (by decide) fX9_30 rfl rfl (by decide +kernel) rfl rfl (Nat.le_of_ble_eq_true rfl) ?_
  refine lk_cload C hl dX9_init_62 ?_
  refine lk_ibip (v := nI 12) C dX9_init_63 (by decide) ?_
  refine lk_inewI (k := 12) C dX9_init_65 rfl (by decide) (Nat.le_of_ble_eq_true rfl) (Nat.le_of_ble_eq_true rfl) (fun a7 => ?_)
  refine lk_iput (ci := 9) (f := 21) (ty := .array .int) C dX9_init_67 (by decide) (by decide) fX9_33 rfl rfl (by decide +kernel) rfl rfl (Nat.le_of_ble_eq_true rfl) ?_
  refine lk_cload C hl dX9_init_70 ?_
  refine lk_ibip (v := nI 12) C dX9_init_71 (by decide) ?_
  refine lk_inewI (k := 12) C dX9_init_73 rfl (by decide) (Nat.le_of_ble_eq_true rfl) (Nat.le_of_ble_eq_true rfl) (fun a8 => ?_)
  refine lk_iput (ci := 9) (f := 27) (ty := .array .int) C dX9_init_75 (by decide) (by decide) fX9_36 rfl rfl (by decide +kernel) rfl rfl (Nat.le_of_ble_eq_true rfl) ?_
  refine lk_cload C hl dX9_init_78 ?_
  refine lk_ibip (v := nI 12) C dX9_init_79 (by decide) ?_
  refine lk_inewI (k := 12) C dX9_init_81 rfl (by decide) (Nat.le_of_ble_eq_true rfl) (Nat.le_of_ble_eq_true rfl) (fun a9 => ?_)
  refine lk_iput (ci := 9) (f := 28) (ty := .array .int) C dX9_init_83 (by decide) (by decide) fX9_39 rfl rfl (by decide +kernel) rfl rfl (Nat.le_of_ble_eq_true rfl) ?_
  refine lk_cload C hl dX9_init_86 ?_
  refine lk_iico (v := 2) C dX9_init_87 (by decide) ?_
  refine lk_ibegins (γ := lk_ga q u h9 (fun f => [a0, a1, a2, 0, 0, 0, 0, 0, 0, 0, 0, a3, 0, a4, 0, 0, a5, 0, 0, 0, a6, a7, 0, 0, 0, 0, 0, a8, a9].getD f 0)) (σ := lk_s0 G) (τ := lk_t0) C hl dX9_init_88 lX9_42 ?_ (Nat.le_of_ble_eq_true rfl) (Nat.le_of_ble_eq_true rfl) (Nat.le_of_ble_eq_true rfl) (Nat.le_of_ble_eq_true rfl) ?_
  · refine List.Perm.trans (List.Perm.of_eq ?_) (lk_world D cI cB q u G h9 (fun f => [a0, a1, a2, 0, 0, 0, 0, 0, 0, 0, 0, a3, 0, a4, 0, 0, a5, 0, 0, 0, a6, a7, 0, 0, 0, 0, 0, a8, a9].getD f 0))
    simp only [List.append_eq, List.nil_append, List.cons_append, List.append_assoc]
    rfl
  exact lk_cret C dX9_init_91 (fun t hP hD hF hW => ⟨⟨fun f => [a0, a1, a2, 0, 0, 0, 0, 0, 0, 0, 0, a3, 0, a4, 0, 0, a5, 0, 0, 0, a6, a7, 0, 0, 0, 0, 0, a8, a9].getD f 0, rfl, trivial, hP, hD⟩, hF⟩)
