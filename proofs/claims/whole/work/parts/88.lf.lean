/-! Canal.reset(2) BEFORE THE MODEL STANDS: over the canal's own cells alone -/
/-- a canal's object and its rows; a: where its rows lie; t1, t2: its tally and its cause -/
def lk_wR (cI cB : ClassId) (q : Nat) (x0 x1 : Int32) (a : Nat → Nat) (t1 t2 : Nat) (g2 g3 g4 g5 g6 g7 g8 g9 : Nat → Int32) : va_W :=
  [(q, .inr (0, [.int x0, .int x1, .ref (a 2), .ref (a 3), .ref (a 4), .ref (a 5), .ref (a 6), .ref (a 7), .ref (a 8), .ref (a 9), .ref t1, .ref t2, .int 0])), (a 2, .inl (cI, 6, .inl g2)), (a 3, .inl (cI, 6, .inl g3)), (a 4, .inl (cI, 6, .inl g4)), (a 5, .inl (cB, 6, .inl g5)), (a 6, .inl (cI, 7, .inl g6)), (a 7, .inl (cI, 7, .inl g7)), (a 8, .inl (cI, 7, .inl g8)), (a 9, .inl (cI, 7, .inl g9))]
def lk_RC (D : va_G) (cI cB : ClassId) (A : Nat → Prop) (p : Program) (s : State) (m : MethodId) (args : Array Value) (c : Code) : Prop :=
  p.tables.exec = Jvm.exec ∧ c.code = cX0_reset ∧ s.vm.findClass RX0 = some m.cls ∧ (∀ w ∈ lk_AW, w.before args s = true) ∧ va_K D vwCl (lk_ity cI cB) s
section LKR
variable {l : Launch} {D : va_G} {cI cB : ClassId} {A : Nat → Prop} {p : Program} {e : Env} {R : Room} {s : State} {m : MethodId} {args : Array Value} {below : List Frame} {meth : Method} {c : Code} {ls : Array Slot} {Qw : State → Prop} {q pc : Nat} {ws : va_W} {cells slots : Nat}
theorem lk_IJeq {ws' : va_W} {S : List Value} (h : ws = ws') (k : lk_IJ p l e R s m args below meth c ls Qw D A pc S ws' cells slots) : lk_IJ p l e R s m args below meth c ls Qw D A pc S ws cells slots := by rw [h]; exact k
theorem lk_rget {idx f a : Nat} {z i : Int32} {fs : List Value} (C : lk_RC D cI cB A p s m args c) (hl : lv_has ls 3 [(2, .int i), (0, .ref q), (1, .int z)]) (h1 : decode cX0_reset pc = .ok (.aload_n 0, 1)) (h2 : decode cX0_reset (pc + 1) = .ok (.getfield idx, 3)) (h3 : decode cX0_reset (pc + 4) = .ok (.iload_n 2, 1)) (hf : f < lk_nf 0) (hlk : Cond.fieldLink RX0 idx RX0 (lk_T0 0 f).2.1 (lk_T0 0 f).2.2.1 ∈ lk_AW) (hdecl : (lk_T0 0 f).1 = RX0) (he : ws[0]? = some (q, .inr (0, fs))) (hv : fs[f]? = some (.ref a))
    (k : lk_IJ p l e R s m args below meth c ls Qw D A (pc + 5) [.int i, .ref a] ws cells slots) : lk_IJ p l e R s m args below meth c ls Qw D A pc [] ws cells slots := by
  intro H locs hP hD hS
  obtain ⟨Cn, ty0, t1, t2, t3, t4⟩ := lk_tab 0 (by decide)
  refine lv_aload_n C.1 C.2.1 h1 rfl (lv_at hl 1 rfl) ?_
  refine va_get (Ts := lk_AW) (T := lk_T0 0) (N := lk_nf 0) (C := Cn) (ref := RX0) (own := RX0) C.1 C.2.1 C.2.2.2.1 t2 C.2.2.1 C.2.2.2.2 hP 0 he t1 f hf (C.2.2.2.1 _ hlk) (fun x h9 => by rw [hdecl] at h9; exact h9) hv h2 ?_
  exact lv_iload_n C.1 C.2.1 h3 rfl (lv_at hl 0 rfl) (k H locs hP hD hS)
theorem lk_rastI {a w n : Nat} {i v : Int32} {g : Nat → Int32} (C : lk_RC D cI cB A p s m args c) (h5 : decode cX0_reset pc = .ok (.iastore, 1)) (hw : ws[w]? = some (a, .inl (cI, n, .inl g))) (hin : vp_in i n) (k : lk_IJ p l e R s m args below meth c ls Qw D A (pc + 1) [] (ws.set w (a, .inl (cI, n, .inl (upd g i.toNatClampNeg v)))) cells slots) : lk_IJ p l e R s m args below meth c ls Qw D A pc [.int v, .int i, .ref a] ws cells slots :=
  fun H locs hP hD hS => va_iast C.1 C.2.1 C.2.2.2.2 hP hD hS w 0 hw rfl hin h5 (fun H1 locs1 hP1 hD1 hS1 => k H1 locs1 hP1 hD1 hS1)
theorem lk_rastZ {a w n : Nat} {i : Int32} {g : Nat → Int32} (C : lk_RC D cI cB A p s m args c) (h5 : decode cX0_reset pc = .ok (.bastore, 1)) (hw : ws[w]? = some (a, .inl (cB, n, .inl g))) (hin : vp_in i n) (k : lk_IJ p l e R s m args below meth c ls Qw D A (pc + 1) [] (ws.set w (a, .inl (cB, n, .inl (upd g i.toNatClampNeg 0)))) cells slots) : lk_IJ p l e R s m args below meth c ls Qw D A pc [.int 0, .int i, .ref a] ws cells slots :=
  fun H locs hP hD hS => va_zast C.1 C.2.1 C.2.2.2.2 hP hD hS w 1 hw rfl hin h5 (fun H1 locs1 hP1 hD1 hS1 => k H1 locs1 hP1 hD1 hS1)
theorem lk_rico {n : Int} {v : Int32} {S : List Value} (C : lk_RC D cI cB A p s m args c) (hd : decode cX0_reset pc = .ok (.iconst n, 1)) (hv : Int32.ofInt n = v) (k : lk_IJ p l e R s m args below meth c ls Qw D A (pc + 1) (.int v :: S) ws cells slots) : lk_IJ p l e R s m args below meth c ls Qw D A pc S ws cells slots :=
  fun H locs hP hD hS => lv_iconst C.1 C.2.1 hd hv (k H locs hP hD hS)
theorem lk_rbip {n : Int} {v : Int32} {S : List Value} (C : lk_RC D cI cB A p s m args c) (hd : decode cX0_reset pc = .ok (.bipush n, 2)) (hv : (Int8.ofInt n).toInt32 = v) (k : lk_IJ p l e R s m args below meth c ls Qw D A (pc + 2) (.int v :: S) ws cells slots) : lk_IJ p l e R s m args below meth c ls Qw D A pc S ws cells slots :=
  fun H locs hP hD hS => lv_bipush C.1 C.2.1 hd hv (k H locs hP hD hS)
theorem lk_rsip {n : Int} {v : Int32} {S : List Value} (C : lk_RC D cI cB A p s m args c) (hd : decode cX0_reset pc = .ok (.sipush n, 3)) (hv : (Int16.ofInt n).toInt32 = v) (k : lk_IJ p l e R s m args below meth c ls Qw D A (pc + 3) (.int v :: S) ws cells slots) : lk_IJ p l e R s m args below meth c ls Qw D A pc S ws cells slots :=
  fun H locs hP hD hS => lv_sipush C.1 C.2.1 hd hv (k H locs hP hD hS)
theorem lk_updk {g : Nat → Int32} {k j : Nat} {v : Int32} (hk : k < 10) (hj : j < k + 1) (h : j < k → g j = v) : upd g (nI k).toNatClampNeg v j = v := by
  rw [nI_clamp (show k < 2 ^ 31 by omega)]
  unfold upd
  split
  · rfl
  · exact h (by omega)
theorem lk_rloop1 {x0 x1 : Int32} {a : Nat → Nat} {t1 t2 : Nat} {g6 g7 g8 g9 : Nat → Int32} (C : lk_RC D cI cB A p s m args c)
    (hend : ∀ (ls : Array Slot) (g2 g3 g4 g5 : Nat → Int32), (∀ j, j < 6 → g2 j = 20 ∧ g3 j = 0 ∧ g4 j = 0 ∧ g5 j = 0) → lv_has ls 3 [(2, .int (nI 6)), (0, .ref q), (1, .int 2)] → lk_IJ p l e R s m args below meth c ls Qw D A 53 [] (lk_wR cI cB q x0 x1 a t1 t2 g2 g3 g4 g5 g6 g7 g8 g9) cells slots) :
    ∀ (r k : Nat) (ls : Array Slot) (g2 g3 g4 g5 : Nat → Int32), k + r = 6 → (∀ j, j < k → g2 j = 20 ∧ g3 j = 0 ∧ g4 j = 0 ∧ g5 j = 0) → lv_has ls 3 [(2, .int (nI k)), (0, .ref q), (1, .int 2)] → lk_IJ p l e R s m args below meth c ls Qw D A 12 [] (lk_wR cI cB q x0 x1 a t1 t2 g2 g3 g4 g5 g6 g7 g8 g9) cells slots
  | r, k, ls, g2, g3, g4, g5, hkr, hg, hl => by
    intro H locs hP hD hS
    refine lv_iload_n C.1 C.2.1 dX0_reset_12 rfl (lv_at hl 0 rfl) ?_
    refine lv_bipush (v := nI 6) C.1 C.2.1 dX0_reset_13 (by decide) ?_
    refine lv_icmp_ge (tgt := 53) C.1 C.2.1 dX0_reset_15 (by decide) (fun hge => ?_) (fun hge => ?_)
    · have : k = 6 := by
        have := (nI_leI (show 6 < 2 ^ 31 by omega) (show k < 2 ^ 31 by omega)).mp hge
        omega
      subst this
      exact hend ls g2 g3 g4 g5 hg hl H locs hP hD hS
    · have hk : k < 6 := by
        have := Nat.not_le.mp (fun z => hge ((nI_leI (show 6 < 2 ^ 31 by omega) (show k < 2 ^ 31 by omega)).mpr z))
        omega
      match r, hkr with
      | 0, hkr => omega
      | r + 1, hkr =>
        have K : lk_IJ p l e R s m args below meth c ls Qw D A 18 [] (lk_wR cI cB q x0 x1 a t1 t2 g2 g3 g4 g5 g6 g7 g8 g9) cells slots := by
          refine lk_rget (f := 2) C hl dX0_reset_18 dX0_reset_19 dX0_reset_22 (by decide) fX0_9 rfl rfl rfl ?_
          refine lk_rbip (v := 20) C dX0_reset_23 (by decide) ?_
          refine lk_rastI (w := 1) C dX0_reset_25 rfl (vp_in_nI hk (by decide)) ?_
          refine lk_IJeq (ws' := lk_wR cI cB q x0 x1 a t1 t2 (upd g2 (nI k).toNatClampNeg 20) g3 g4 g5 g6 g7 g8 g9) rfl ?_
          refine lk_rget (f := 3) C hl dX0_reset_26 dX0_reset_27 dX0_reset_30 (by decide) fX0_15 rfl rfl rfl ?_
          refine lk_rico (v := 0) C dX0_reset_31 (by decide) ?_
          refine lk_rastI (w := 2) C dX0_reset_32 rfl (vp_in_nI hk (by decide)) ?_
          refine lk_IJeq (ws' := lk_wR cI cB q x0 x1 a t1 t2 (upd g2 (nI k).toNatClampNeg 20) (upd g3 (nI k).toNatClampNeg 0) g4 g5 g6 g7 g8 g9) rfl ?_
          refine lk_rget (f := 4) C hl dX0_reset_33 dX0_reset_34 dX0_reset_37 (by decide) fX0_18 rfl rfl rfl ?_
          refine lk_rico (v := 0) C dX0_reset_38 (by decide) ?_
          refine lk_rastI (w := 3) C dX0_reset_39 rfl (vp_in_nI hk (by decide)) ?_
          refine lk_IJeq (ws' := lk_wR cI cB q x0 x1 a t1 t2 (upd g2 (nI k).toNatClampNeg 20) (upd g3 (nI k).toNatClampNeg 0) (upd g4 (nI k).toNatClampNeg 0) g5 g6 g7 g8 g9) rfl ?_
          refine lk_rget (f := 5) C hl dX0_reset_40 dX0_reset_41 dX0_reset_44 (by decide) fX0_21 rfl rfl rfl ?_
          refine lk_rico (v := 0) C dX0_reset_45 (by decide) ?_
          refine lk_rastZ (w := 4) C dX0_reset_46 rfl (vp_in_nI hk (by decide)) ?_
          refine lk_IJeq (ws' := lk_wR cI cB q x0 x1 a t1 t2 (upd g2 (nI k).toNatClampNeg 20) (upd g3 (nI k).toNatClampNeg 0) (upd g4 (nI k).toNatClampNeg 0) (upd g5 (nI k).toNatClampNeg 0) g6 g7 g8 g9) rfl ?_
          intro H locs hP hD hS
          refine lv_iinc (k := 0) C.1 C.2.1 dX0_reset_47 hl rfl (v := nI (k + 1)) (nI_add k 1) (by decide) rfl (fun ls' hl' => ?_)
          refine lv_goto (tgt := 12) C.1 C.2.1 dX0_reset_50 (by decide) ?_
          exact lk_rloop1 C hend r (k + 1) ls' _ _ _ _ (by omega) (fun j hj => ⟨lk_updk (by omega) hj (fun z => (hg j z).1), lk_updk (by omega) hj (fun z => (hg j z).2.1), lk_updk (by omega) hj (fun z => (hg j z).2.2.1), lk_updk (by omega) hj (fun z => (hg j z).2.2.2)⟩) hl' H locs hP hD hS
        exact K H locs hP hD hS
theorem lk_rloop2 {x0 x1 : Int32} {a : Nat → Nat} {t1 t2 : Nat} {g2 g3 g4 g5 : Nat → Int32} (C : lk_RC D cI cB A p s m args c)
    (hend : ∀ (ls : Array Slot) (g6 g7 g8 g9 : Nat → Int32), (∀ j, j < 7 → g6 j = 500 ∧ g7 j = 0 ∧ g8 j = 9999 ∧ g9 j = 0) → lk_IJ p l e R s m args below meth c ls Qw D A 99 [] (lk_wR cI cB q x0 x1 a t1 t2 g2 g3 g4 g5 g6 g7 g8 g9) cells slots) :
    ∀ (r k : Nat) (ls : Array Slot) (g6 g7 g8 g9 : Nat → Int32), k + r = 7 → (∀ j, j < k → g6 j = 500 ∧ g7 j = 0 ∧ g8 j = 9999 ∧ g9 j = 0) → lv_has ls 3 [(2, .int (nI k)), (0, .ref q), (1, .int 2)] → lk_IJ p l e R s m args below meth c ls Qw D A 55 [] (lk_wR cI cB q x0 x1 a t1 t2 g2 g3 g4 g5 g6 g7 g8 g9) cells slots
  | r, k, ls, g6, g7, g8, g9, hkr, hg, hl => by
    intro H locs hP hD hS
    refine lv_iload_n C.1 C.2.1 dX0_reset_55 rfl (lv_at hl 0 rfl) ?_
    refine lv_bipush (v := nI 6) C.1 C.2.1 dX0_reset_56 (by decide) ?_
    refine lv_icmp_gt (tgt := 99) C.1 C.2.1 dX0_reset_58 (by decide) (fun hge => ?_) (fun hge => ?_)
    · have : k = 7 := by
        have := (nI_ltI (show 6 < 2 ^ 31 by omega) (show k < 2 ^ 31 by omega)).mp hge
        omega
      subst this
      exact hend ls g6 g7 g8 g9 hg H locs hP hD hS
    · have hk : k < 7 := by
        have := Nat.not_lt.mp (fun z => hge ((nI_ltI (show 6 < 2 ^ 31 by omega) (show k < 2 ^ 31 by omega)).mpr z))
        omega
      match r, hkr with
      | 0, hkr => omega
      | r + 1, hkr =>
        have K : lk_IJ p l e R s m args below meth c ls Qw D A 61 [] (lk_wR cI cB q x0 x1 a t1 t2 g2 g3 g4 g5 g6 g7 g8 g9) cells slots := by
          refine lk_rget (f := 6) C hl dX0_reset_61 dX0_reset_62 dX0_reset_65 (by decide) fX0_25 rfl rfl rfl ?_
          refine lk_rsip (v := 500) C dX0_reset_66 (by decide) ?_
          refine lk_rastI (w := 5) C dX0_reset_69 rfl (vp_in_nI hk (by decide)) ?_
          refine lk_IJeq (ws' := lk_wR cI cB q x0 x1 a t1 t2 g2 g3 g4 g5 (upd g6 (nI k).toNatClampNeg 500) g7 g8 g9) rfl ?_
          refine lk_rget (f := 7) C hl dX0_reset_70 dX0_reset_71 dX0_reset_74 (by decide) fX0_28 rfl rfl rfl ?_
          refine lk_rico (v := 0) C dX0_reset_75 (by decide) ?_
          refine lk_rastI (w := 6) C dX0_reset_76 rfl (vp_in_nI hk (by decide)) ?_
          refine lk_IJeq (ws' := lk_wR cI cB q x0 x1 a t1 t2 g2 g3 g4 g5 (upd g6 (nI k).toNatClampNeg 500) (upd g7 (nI k).toNatClampNeg 0) g8 g9) rfl ?_
          refine lk_rget (f := 8) C hl dX0_reset_77 dX0_reset_78 dX0_reset_81 (by decide) fX0_31 rfl rfl rfl ?_
          refine lk_rsip (v := 9999) C dX0_reset_82 (by decide) ?_
          refine lk_rastI (w := 7) C dX0_reset_85 rfl (vp_in_nI hk (by decide)) ?_
          refine lk_IJeq (ws' := lk_wR cI cB q x0 x1 a t1 t2 g2 g3 g4 g5 (upd g6 (nI k).toNatClampNeg 500) (upd g7 (nI k).toNatClampNeg 0) (upd g8 (nI k).toNatClampNeg 9999) g9) rfl ?_
          refine lk_rget (f := 9) C hl dX0_reset_86 dX0_reset_87 dX0_reset_90 (by decide) fX0_34 rfl rfl rfl ?_
          refine lk_rico (v := 0) C dX0_reset_91 (by decide) ?_
          refine lk_rastI (w := 8) C dX0_reset_92 rfl (vp_in_nI hk (by decide)) ?_
          refine lk_IJeq (ws' := lk_wR cI cB q x0 x1 a t1 t2 g2 g3 g4 g5 (upd g6 (nI k).toNatClampNeg 500) (upd g7 (nI k).toNatClampNeg 0) (upd g8 (nI k).toNatClampNeg 9999) (upd g9 (nI k).toNatClampNeg 0)) rfl ?_
          intro H locs hP hD hS
          refine lv_iinc (k := 0) C.1 C.2.1 dX0_reset_93 hl rfl (v := nI (k + 1)) (nI_add k 1) (by decide) rfl (fun ls' hl' => ?_)
          refine lv_goto (tgt := 55) C.1 C.2.1 dX0_reset_96 (by decide) ?_
          exact lk_rloop2 C hend r (k + 1) ls' _ _ _ _ (by omega) (fun j hj => ⟨lk_updk (by omega) hj (fun z => (hg j z).1), lk_updk (by omega) hj (fun z => (hg j z).2.1), lk_updk (by omega) hj (fun z => (hg j z).2.2.1), lk_updk (by omega) hj (fun z => (hg j z).2.2.2)⟩) hl' H locs hP hD hS
        exact K H locs hP hD hS
end LKR
/-- what reset(2) leaves -/
def lk_RP (G : Nat → Nat → Int32) : Prop := (∀ j, j < 6 → G 2 j = 20 ∧ G 3 j = 0 ∧ G 4 j = 0 ∧ G 5 j = 0) ∧ ∀ j, j < 7 → G 6 j = 500 ∧ G 7 j = 0 ∧ G 8 j = 9999 ∧ G 9 j = 0
abbrev lk_wG (cI cB : ClassId) (q : Nat) (x0 x1 : Int32) (a : Nat → Nat) (t1 t2 : Nat) (G : Nat → Nat → Int32) : va_W := lk_wR cI cB q x0 x1 a t1 t2 (G 2) (G 3) (G 4) (G 5) (G 6) (G 7) (G 8) (G 9)
def lk_g8 (g2 g3 g4 g5 g6 g7 g8 g9 : Nat → Int32) : Nat → Nat → Int32 := fun f => match f with
  | 2 => g2 | 3 => g3 | 4 => g4 | 5 => g5 | 6 => g6 | 7 => g7 | 8 => g8 | _ => g9
theorem c_reset (l : Launch) (D : va_G) (cI cB : ClassId) (q sz t1 t2 : Nat) (x0 x1 : Int32) (a : Nat → Nat) (G0 : Nat → Nat → Int32) : Met l mX0_reset.1 (lk_wd mX0_reset) (lk_irm 0 0 0) (va_Pc [.ref q, .int 2] (fun U => U.heap.size = sz ∧ va_P D vwCl (lk_wG cI cB q x0 x1 a t1 t2 G0) U.heap ∧ va_K D vwCl (lk_ity cI cB) U ∧ va_D (fun _ => True) (lk_wG cI cB q x0 x1 a t1 t2 G0))) (va_Qv lk_RP (fun G t => va_P D vwCl (lk_wG cI cB q 2 0 a t1 t2 G) t.heap ∧ va_D (va_A (lk_wG cI cB q x0 x1 a t1 t2 G0) sz) (lk_wG cI cB q 2 0 a t1 t2 G)) (va_A (lk_wG cI cB q x0 x1 a t1 t2 G0) sz)) 0 0 (va_A (lk_wG cI cB q x0 x1 a t1 t2 G0) sz) := by
  refine Met.ofW (cc := cX0_reset) (maxL := 3) (ret := none) (by decide) rfl ?_
  intro p e s m args below meth c s₁ B hml hv
  obtain ⟨rfl, hsz, hP, hK, hD0⟩ := hv
  subst hsz
  have hD := hD0.self (sz := s.heap.size)
  generalize hAe : va_A (lk_wG cI cB q x0 x1 a t1 t2 G0) s.heap.size = A at hD ⊢
  have hl := lv_entry ([.ref q, .int 2]) (n := 3) (Nat.le_of_ble_eq_true rfl)
  rw [lg_entry_eq]
  generalize (lg_sl ([.ref q, .int 2]) ++ List.replicate (3 - (lg_sl ([.ref q, .int 2])).length) Slot.unset).toArray = ls at hl ⊢
  have hl : lv_has ls 3 [(0, .ref q), (1, .int 2)] := hl
  have hts : ∀ w ∈ lk_AW, w.before _ s = true := fun w hw => atoms_spec (ws := lk_wd mX0_reset) B.pre w (List.mem_cons_of_mem _ hw)
  have hown : s.vm.findClass RX0 = some m.cls := findClass_of_methodNamed B.named
  have C : lk_RC D cI cB A p s m _ c := ⟨B.exec, B.bytes, hown, hts, hK⟩
  have hr := B.returns
  have hlocks := B.notSynchronized
  obtain ⟨Cn, ty0, u1, u2, u3, u4⟩ := lk_tab 0 (by decide)
  have hS : va_S A s.heap s.heap [] := va_S.rf
  refine lv_aload_n C.1 C.2.1 dX0_reset_0 rfl (lv_at hl 0 rfl) ?_
  refine lv_iload_n C.1 C.2.1 dX0_reset_1 rfl (lv_at hl 1 rfl) ?_
  refine va_put (v := .int 2) (ty := .int) (Ts := lk_AW) (T := lk_T0 0) (N := lk_nf 0) (C := Cn) (ref := RX0) (own := RX0) C.1 C.2.1 hts u2 ty0 u3 u4 hown hK hP hD hS 0 rfl u1 0 (by decide) (hts _ fX0_51) (fun x h9 => h9) rfl (by decide +kernel) rfl rfl (Nat.le_of_ble_eq_true rfl) dX0_reset_2 (fun H locs hP hD hS => ?_)
  refine lv_aload_n C.1 C.2.1 dX0_reset_5 rfl (lv_at hl 0 rfl) ?_
  refine lv_iconst (v := 0) C.1 C.2.1 dX0_reset_6 (by decide) ?_
  refine va_put (v := .int 0) (ty := .int) (Ts := lk_AW) (T := lk_T0 0) (N := lk_nf 0) (C := Cn) (ref := RX0) (own := RX0) C.1 C.2.1 hts u2 ty0 u3 u4 hown hK hP hD hS 0 rfl u1 1 (by decide) (hts _ fX0_55) (fun x h9 => h9) rfl (by decide +kernel) rfl rfl (Nat.le_of_ble_eq_true rfl) dX0_reset_7 (fun H locs hP hD hS => ?_)
  refine lv_iconst (v := 0) C.1 C.2.1 dX0_reset_10 (by decide) ?_
  refine lv_istore_n C.1 C.2.1 dX0_reset_11 rfl hl (by decide) rfl (fun ls hl => ?_)
  have K : lk_IJ p l e (lk_irm 0 0 0) s m #[.ref q, .int 2] below meth c ls (MQ below (va_Qv lk_RP (fun G t => va_P D vwCl (lk_wG cI cB q 2 0 a t1 t2 G) t.heap ∧ va_D A (lk_wG cI cB q 2 0 a t1 t2 G)) A) #[.ref q, .int 2] s 0 0 A) D A 12 [] (lk_wG cI cB q 2 0 a t1 t2 G0) 0 0 := by
    refine lk_rloop1 C (fun ls g2 g3 g4 g5 hg hl => ?_) 6 0 ls _ _ _ _ rfl (fun j hj => absurd hj (by omega)) hl
    refine lk_rico (v := 0) C dX0_reset_53 (by decide) ?_
    intro H locs hP hD hS
    refine lv_istore_n C.1 C.2.1 dX0_reset_54 rfl hl (by decide) rfl (fun ls hl => ?_)
    refine lk_rloop2 C (fun ls g6 g7 g8 g9 hg2 => ?_) 7 0 ls _ _ _ _ rfl (fun j hj => absurd hj (by omega)) hl H locs hP hD hS
    intro H locs hP hD hS
    exact W.vret C.1 C.2.1 hr (fun t ht hW => ⟨⟨lk_g8 g2 g3 g4 g5 g6 g7 g8 g9, rfl, ⟨hg, hg2⟩, by rw [ht]; exact hP, hD⟩, hS.F ht⟩) hS.2.2 dX0_reset_99
  exact K H locs hP hD hS
