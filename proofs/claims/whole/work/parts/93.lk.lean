/-! THE LAW FROM ITS ENTRY -/
theorem lk_tabi : ∀ ci, ci < 10 → ∀ q : vw_C, vwCl[ci]? = some q → Cond.instantiable q.1 q.2.2 ∈ lk_AW ∧ ∀ w ∈ u_ws q.1 q.2.1 q.2.2, w ∈ lk_AW
  | 0, _, _, rfl => ⟨nX0, iwX0⟩
  | 1, _, _, rfl => ⟨nX1, iwX1⟩
  | 2, _, _, rfl => ⟨nX2, iwX2⟩
  | 3, _, _, rfl => ⟨nX3, iwX3⟩
  | 4, _, _, rfl => ⟨nX4, iwX4⟩
  | 5, _, _, rfl => ⟨nX5, iwX5⟩
  | 6, _, _, rfl => ⟨nX6, iwX6⟩
  | 7, _, _, rfl => ⟨nX7, iwX7⟩
  | 8, _, _, rfl => ⟨nX8, iwX8⟩
  | 9, _, _, rfl => ⟨nX9, iwX9⟩
  | n + 10, h, _, _ => absurd h (by omega)
theorem lk_nt0 : Cond.methodLinkNest RX8 13 yX0_init "LockStaircase" ∈ lw_tbl := List.mem_append_right _ (List.mem_append_left _ (List.mem_of_getElem? (i := 24) rfl))
theorem lk_nt1 : Cond.methodLinkNest RX8 20 yX2_init "LockStaircase" ∈ lw_tbl := List.mem_append_right _ (List.mem_append_left _ (List.mem_of_getElem? (i := 122) rfl))
theorem lk_nt2 : Cond.methodLinkNest RX8 27 yX6_init "LockStaircase" ∈ lw_tbl := List.mem_append_right _ (List.mem_append_left _ (List.mem_of_getElem? (i := 154) rfl))
theorem lk_nt3 : Cond.methodLinkNest RX8 46 yX3_init "LockStaircase" ∈ lw_tbl := List.mem_append_right _ (List.mem_append_left _ (List.mem_of_getElem? (i := 192) rfl))
theorem lk_nt4 : Cond.methodLinkNest RX8 56 yX4_init "LockStaircase" ∈ lw_tbl := List.mem_append_right _ (List.mem_append_left _ (List.mem_of_getElem? (i := 208) rfl))
theorem lk_nt5 : Cond.methodLinkNest RX8 63 yX7_init "LockStaircase" ∈ lw_tbl := List.mem_append_right _ (List.mem_append_left _ (List.mem_of_getElem? (i := 227) rfl))
theorem lk_nt6 : Cond.methodLinkNest RX0 39 yX5_init "LockStaircase" ∈ lw_tbl := List.mem_append_right _ (List.mem_append_left _ (List.mem_of_getElem? (i := 30) rfl))
theorem lk_nt7 : Cond.methodLinkNest RX0 46 yX1_init "LockStaircase" ∈ lw_tbl := List.mem_append_right _ (List.mem_append_left _ (List.mem_of_getElem? (i := 42) rfl))
theorem lk_NW0 {s : State} {A : Array Value} (hts : ∀ w ∈ lw_tbl, w.before A s = true) : lk_NW lk_ns s := by
  intro q hq
  obtain ⟨k, hk⟩ := List.getElem?_of_mem hq
  rcases k with _ | k
  · cases hk; exact va_Nw.of rfl (hts _ lk_nt0)
  rcases k with _ | k
  · cases hk; exact va_Nw.of rfl (hts _ lk_nt1)
  rcases k with _ | k
  · cases hk; exact va_Nw.of rfl (hts _ lk_nt2)
  rcases k with _ | k
  · cases hk; exact va_Nw.of rfl (hts _ lk_nt3)
  rcases k with _ | k
  · cases hk; exact va_Nw.of rfl (hts _ lk_nt4)
  rcases k with _ | k
  · cases hk; exact va_Nw.of rfl (hts _ lk_nt5)
  rcases k with _ | k
  · cases hk; exact va_Nw.of rfl (hts _ lk_nt6)
  rcases k with _ | k
  · cases hk; exact va_Nw.of rfl (hts _ lk_nt7)
  · cases hk
/-- the classes' numbers, and the rows' -/
theorem lk_known {s : State} {A : Array Value} (hts : ∀ w ∈ lk_AW, w.before A s = true) : ∃ (D : va_G) (cI cB : ClassId), va_K D vwCl (lk_ity cI cB) s := by
  have hk : ∀ ci : Nat, ∃ (cC : ClassId) (iS : Nat → Nat), ∀ q : vw_C, vwCl[ci]? = some q → u_Kn s q.1 q.2.1 q.2.2 cC iS := by
    intro ci
    cases h : vwCl[ci]? with
    | none => exact ⟨0, fun _ => 0, fun q hq => by cases hq⟩
    | some q =>
      obtain ⟨h1, h2⟩ := lk_tabi ci (List.getElem?_eq_some_iff.mp h).1 q h
      obtain ⟨cC, iS, hK⟩ := u_known hts h2 (hts _ h1)
      exact ⟨cC, iS, fun q' hq => by cases hq; exact hK⟩
  obtain ⟨f, hf⟩ := Classical.axiomOfChoice hk
  obtain ⟨g, hg⟩ := Classical.axiomOfChoice hf
  obtain ⟨cI, kI, pI, i1, i2, i3⟩ := Cond.arrayClass_spec (hts _ wArrI)
  obtain ⟨cB, kB, pB, b1, b2, b3⟩ := Cond.arrayClass_spec (hts _ wArrZ)
  refine ⟨(f, g), cI, cB, hg, fun k q hq => ?_⟩
  rcases k with _ | _ | k
  · cases hq
    exact ⟨fun n z => ⟨fun k h => (by cases h), kI, i2, pI, i3⟩, i1⟩
  · cases hq
    exact ⟨fun n z => ⟨fun k h => (by cases h), kB, b2, pB, b3⟩, b1⟩
  · cases hq
theorem lk_has4 {ls : Array Slot} {a b c : Nat} {x : Int32} (h : lv_has ls 4 [(3, .int x), (2, .ref c), (1, .ref b), (0, .ref a)]) : lv_has ls 4 [(3, .int x), (0, .ref a), (1, .ref b), (2, .ref c)] := by
  obtain ⟨h1, h2, h3⟩ := h
  refine ⟨h1, h2, fun q hq => h3 q ?_⟩
  simp only [List.mem_cons] at hq ⊢
  rcases hq with h | h | h | h | h <;> simp [h]
set_option maxRecDepth 4000 in
theorem whole_start {p : Program} {e : Env} {s : State} {m : MethodId} {below : List Frame} {meth : Method} {c : Code} (l : Launch) (hflags : l.flags = flags0) {b L : Nat} {xs : Nat → Int32} (hL : L ≤ 2560) (C0 : lw_At p s m meth c b L xs) : W p l e room_1 s m #[Value.ref b] below meth c s.heap [] 0 0 (lw_Z below #[Value.ref b] s) (entryFrame m ([Value.ref b] : List Value).toArray 4) := by
  obtain ⟨hx, hb, hr, hml, hown, hts0, hX, hbl, hlocks, hgv⟩ := id C0
  have hts : ∀ w ∈ lk_AW, w.before #[Value.ref b] s = true := fun w h => hts0 w (List.mem_filter.mp h).1
  obtain ⟨D, cI, cB, hK⟩ := lk_known hts
  have hN : lk_NW lk_ns s := lk_NW0 hts0
  have hA : ∀ x, s.heap.size ≤ x → (fun y => s.heap.size ≤ y) x := fun x h => h
  have hl := lv_entry ([.ref b]) (n := 4) (Nat.le_of_ble_eq_true rfl)
  rw [lg_entry_eq]
  generalize (lg_sl ([.ref b]) ++ List.replicate (4 - (lg_sl ([.ref b])).length) Slot.unset).toArray = ls at hl ⊢
  have hl : lv_has ls 4 [(0, .ref b)] := hl
  have hP : va_P D vwCl [] s.heap := fun k q hq => by cases hq
  have hD : va_D (fun y => s.heap.size ≤ y) [] := ⟨fun i j p q hp => by (cases hp), fun k q hq => by cases hq⟩
  have hS : va_S (fun y => s.heap.size ≤ y) s.heap s.heap [] := va_S.rf
  -- the class's object
  refine va_new (ci := 8) (fs := zX8) (C := RX8) (T := TX8) (N := 14) (Ts := lk_AW) hx hb hts iwX8 tyX8 tyX8_ok hown (hts _ gL_7) (hts _ nX8) (hts _ vX8_init.2.1) hK hP hD hS hA rfl (zX8_ok TX8 tyX8 RX8 rfl tyX8_ok) (by decide) (by decide) dL_law_0 (fun q H hP hD hS => ?_)
  refine lv_dup hx hb dL_law_3 rfl ?_
  have hF : ∀ x, va_A [(q, .inr (8, zX8))] H.size x → s.heap.size ≤ x := by
    rintro x (⟨k, e, hk⟩ | z)
    · exact hD.2 k _ hk
    · exact Nat.le_trans hS.1 z
  refine va_callv (va_runI (As := []) (rest := [.ref q]) (Ts := lk_AW) ⟨hx, hb, hml, hown, hts⟩ (c_X8 l D cI cB q H.size) (cwI 0 hts (lk_igood (M' := mX8_init) vX8_init.2.2) rfl rfl rfl (hts _ vX8_init.2.1) (hts _ lLi_9) (hts _ vX8_init.1) rfl ⟨by decide, by decide, by decide +kernel⟩ ⟨by decide, by decide⟩) ⟨fun a U g mk z => ⟨z.1, z.2.1, z.2.2.1, va_K.moved (u := U) (U := U.calling g mk a) (Vm.Alike.refl U.vm) z.2.2.2.1, lk_NW_same rfl z.2.2.2.2.1, z.2.2.2.2.2⟩, fun U hU hW => ⟨rfl, by rw [hU], by rw [hU]; exact hP, va_K.moved hW.alike hK, lk_NW_warm hW hN, hD.weaken (fun _ _ _ _ => trivial)⟩⟩ rfl rfl hl.1 rfl (lv_room (Nat.le_of_ble_eq_true rfl)) dL_law_4 ⟨by decide, by decide⟩) hS (fun x _ h => hF x h) hF (fun u t H1 locs1 ht hvm h5 hB hz1 hk1 hS1 => ?_)
  obtain ⟨u, G⟩ := u
  rw [ht] at hB
  obtain ⟨hP, hD⟩ := lk_join2 (ws := []) hP hD hk1 hF hB.1 hB.2
  have hP : va_P D vwCl (lk_wo8 cI cB q u G) H1 := hP
  have hD : va_D (fun y => s.heap.size ≤ y) (lk_wo8 cI cB q u G) := hD
  have hG : lk_RP G := h5
  refine lv_astore_n hx hb dL_law_7 rfl hl (by decide) rfl (fun ls hl => ?_)
  -- the model
  refine va_new (ci := 9) (fs := zX9) (C := RX9) (T := TX9) (N := 29) (Ts := lk_AW) hx hb hts iwX9 tyX9 tyX9_ok hown (hts _ gL_10) (hts _ nX9) (hts _ vX9_init.2.1) hK hP hD hS1 hA rfl (zX9_ok TX9 tyX9 RX9 rfl tyX9_ok) (by decide) (by decide) dL_law_8 (fun h9 H hP hD hS => ?_)
  have hPm := lk_P_perm List.perm_append_comm hP
  have hDm := lk_D_perm List.perm_append_comm hD
  refine lv_dup hx hb dL_law_11 rfl ?_
  have hF : ∀ x, va_A ((h9, .inr (9, zX9)) :: lk_wo8 cI cB q u G) H.size x → s.heap.size ≤ x := by
    rintro x (⟨k, e, hk⟩ | z)
    · exact hDm.2 k _ hk
    · exact Nat.le_trans hS.1 z
  refine va_callv (va_runI (As := []) (rest := [.ref h9]) (Ts := lk_AW) ⟨hx, hb, hml, hown, hts⟩ (c_X9 l D cI cB q u G h9 H.size) (cwI 0 hts (lk_igood (M' := mX9_init) vX9_init.2.2) rfl rfl rfl (hts _ vX9_init.2.1) (hts _ lLi_12) (hts _ vX9_init.1) rfl ⟨by decide, by decide, by decide +kernel⟩ ⟨by decide, by decide⟩) ⟨fun a U g mk z => ⟨z.1, z.2.1, z.2.2.1, va_K.moved (u := U) (U := U.calling g mk a) (Vm.Alike.refl U.vm) z.2.2.2.1, z.2.2.2.2⟩, fun U hU hW => ⟨rfl, by rw [hU], by rw [hU]; exact hPm, va_K.moved hW.alike hK, hDm.weaken (fun _ _ _ _ => trivial)⟩⟩ rfl rfl hl.1 rfl (lv_room (Nat.le_of_ble_eq_true rfl)) dL_law_12 ⟨by decide, by decide⟩) hS (fun x _ h => hF x h) hF (fun v t H2 locs2 ht hvm h5 hB hz1 hk1 hS2 => ?_)
  rw [ht] at hB
  obtain ⟨hP, hD⟩ := lk_join2 (ws := []) (wc := (h9, .inr (9, zX9)) :: lk_wo8 cI cB q u G) hPm hDm hk1 hF hB.1 hB.2
  have hP : va_P D vwCl (lk_ws (lk_X0 D cI cB q u h9 v) (lk_s1 G) lk_t0) H2 := hP
  have hD : va_D (fun y => s.heap.size ≤ y) (lk_ws (lk_X0 D cI cB q u h9 v) (lk_s1 G) lk_t0) := hD
  have hP := lk_P_ext (lk_s1_ext hG) hP
  have hD : va_D (fun y => s.heap.size ≤ y) (lk_ws (lk_X0 D cI cB q u h9 v) lk_bgz lk_t0) := lk_D_any hD
  refine lv_astore_n hx hb dL_law_15 rfl hl (by decide) rfl (fun ls hl => ?_)
  refine lv_iconst (v := nI 0) hx hb dL_law_16 (by decide) ?_
  refine lv_istore_n hx hb dL_law_17 rfl hl (by decide) rfl (fun ls hl => ?_)
  refine lk_Lloop l (X := lk_X0 D cI cB q u h9 v) (cc := _) (ss := _) ⟨C0, hK, lk_A_in hD, by decide, by decide, hL⟩ (L + 5) 0 0 lk_bgz lk_t0 (by omega) (by omega) (by omega) lk_Rel0 H2 locs2 ls hP (lk_D_own hD) hS2 ?_
  exact lk_has4 hl
-- the rest: the same for every law
set_option maxHeartbeats 4000000 in
theorem lw_walk (l : Launch) (hflags : l.flags = flags0) (b : Addr) (xs : List Int32) : MetFree l x (headSpec (Jvm.Cond.code x code maxLocals ret :: tables_1) room_1) (lw_P b xs) (fun _ _ _ _ _ => True) lw_Q := by
  refine MetFree.of_bodyS (code := code) (maxLocals := maxLocals) (ret := ret) (by decide) ?_ ?_
  · intro args s m h hn
    obtain ⟨meth, c, h1, h2, h3, h4, h5, h6, -, -⟩ := Cond.code_spec hn (atoms_spec (ws := Jvm.Cond.code x code maxLocals ret :: tables_1) h _ List.mem_cons_self)
    exact ⟨meth, c, h1, h2, h3, h4, h5, h6⟩
  · intro p e s m args below meth c s₁ B hml0 hP _
    obtain ⟨rfl, hx, hbd, hgv⟩ := hP
    obtain ⟨scr, harrAt, hlist, hof, hsmall⟩ := hx
    obtain ⟨hcb, hkn, -, -⟩ := State.arrayAt?_spec harrAt
    have hown : s.vm.findClass R_law = some m.cls := findClass_of_methodNamed B.named
    have hts0 : ∀ c ∈ (Jvm.Cond.code x code maxLocals ret :: tables_1), c.before #[Value.ref b] s = true := atoms_spec (ws := Jvm.Cond.code x code maxLocals ret :: tables_1) B.pre
    have hts : ∀ w ∈ lw_tbl, w.before #[Value.ref b] s = true := k2_hts_sels lw_privs (fun w hw => hts0 w (List.mem_cons_of_mem _ hw)) lw_privs_ok
    have hml : c.maxLocals = 4 := B.maxLocals_eq (hts0 _ List.mem_cons_self)
    have X₀ : Stand p l e room_1 s m #[Value.ref b] below meth c s₁ [] 0 0 := Stand.of_body B
    have hh0 : s₁.heap = s.heap := by rw [B.state]; rfl
    have hsz : scr.slots.size = xs.length := by rw [← Array.length_toList, hlist, List.length_map]
    have hval : ∀ j : Nat, j < xs.length → scr.slots[j]? = some (.int (xs.getD j 0)) := fun j hj => by
      rw [← Array.getElem?_toList, hlist]
      simp [hj]
    have hbl : b < s.heap.size := (Array.getElem?_eq_some_iff.mp hcb).1
    have hX : va_X b xs.length (fun j => xs.getD j 0) s s.heap := ⟨scr, hcb, hof, hkn, hsz, hval⟩
    have K : W p l e room_1 s m #[Value.ref b] below meth c s₁.heap [] 0 0 (lw_Z below #[Value.ref b] s) (entryFrame m ([Value.ref b] : List Value).toArray 4) := by
      rw [hh0]
      exact whole_start l hflags hbd ⟨B.exec, B.bytes, B.returns, hml, hown, hts, hX, hbl, B.notSynchronized, hgv⟩
    obtain ⟨t, a1, o, b1, b2, b3⟩ := K s₁ rfl X₀
    exact ⟨t, o, a1, b1, b2, b3⟩
theorem lw_pre_spec {args : Array Value} {s : State} (h : (Jvm.Cond.and given_1 narrow_1).before args s = true) (hr : rest_1_c.before args s = true) : ∃ (b : Addr) (xs : List Int32), lw_P b xs args s := by
  have hs := flat_of_before _ h
  have hq := flat_of_before _ hr
  have hc : (Cond.count 1).before args s = true := hs _ (by decide +kernel)
  have harr : (Cond.arrayOf (.arg 0) .int).before args s = true := hs _ (by decide +kernel)
  have hle : (Cond.le (.length (.arg 0)) (.int 2560)).before args s = true := hs _ (by decide +kernel)
  have hlen : (Cond.isInt (.length (.arg 0))).before args s = true := hq _ (by decide +kernel)
  have hall : (Cond.all (.arg 0) (.isInt (.elem (.arg 0) (.index 0)))).before args s = true := hq _ (by decide +kernel)
  obtain ⟨b, xs, hb, hx⟩ := State.ints_of_pre rfl harr hlen hall
  have hsm : xs.length < 2 ^ 31 := hx.choose_spec.2.2.2
  have hev : (Term.length (.arg 0)).eval args s none [] s = some (.int xs.length.toInt32) := hx.length_eval hb
  have hv := Cond.le_ints hev (show (Term.int 2560).eval args s none [] s = some (.int 2560) from rfl)
  have hd : xs.length.toInt32 ≤ 2560 := by
    simpa [Cond.before, Cond.holds, hv] using hle
  have hN : xs.length ≤ 2560 := (Int32.ofNat_le_ofNat hsm (by decide)).mp (show Int32.ofNat xs.length ≤ Int32.ofNat 2560 from hd)
  exact ⟨b, xs, Cond.one_arg hc (show args[0]? = some (.ref b) from hb), hx, hN, h⟩
theorem lw_comes (l : Launch) (hflags : l.flags = flags0) : Comes l x (Jvm.Cond.code x code maxLocals ret :: tables_1) room_1 (fun tb e args s => Calls_1 tb e args s ∧ rest_1 tb e args s ∧ Pre_1 tb e args s)
    (fun _ _ args s o t => lw_Q args s o t) := by
  intro p e ha hc hk s m args below hf hfit hheap happ hpre
  obtain ⟨b, xs, hP⟩ := lw_pre_spec hpre.2.2 hpre.2.1
  obtain ⟨k, o, h1, h2, h3, hQ⟩ := lw_walk l hflags b xs p e ha hc hk s m args below hf ((Spec.applies_iff_loose hf).mp happ).1 hP trivial
  exact ⟨k, o, h1, h2, h3, hQ⟩
theorem lw_frame {s t : State} {o : Outcome} {args : Array Value} (h : Framed s o t [] 600000 7302249) :
    Framed s o t (fieldLocs frame_1_writes args s ++ arrayLocs frame_1_arrays args s ++ staticLocs frame_1_statics s) 600000 7302249 := h
theorem lw_limb (L : Cond) (hL : ∀ (args : Array Value) (s t : State), L.after args s (.returned (some (.int 1))) t = true) :
    ArmFor flags0 classFile x code maxLocals ret World_1 tables_1 room_1 Calls_1 rest_1 Pre_1
      (fun tb e a s o t => postC L tb e a s o t ∧ Framed s o t (fieldLocs frame_1_writes a s ++ arrayLocs frame_1_arrays a s ++ staticLocs frame_1_statics s) 600000 7302249) := by
  intro l hflags _ _ p e ha hc hk s m args below hf hfit hheap happ hpre
  obtain ⟨k, o, h1, h2, h3, rfl, hF⟩ := lw_comes l hflags p e ha hc hk s m args below hf hfit hheap happ hpre
  exact ⟨k, _, h1, h2, h3, hL args s _, lw_frame hF⟩
theorem i_vc : Claimed_1_1 ∧ Claimed_1_2 := ⟨lw_limb limb_1_1 (fun args s t => by simp [limb_1_1, Cond.after, Cond.holds, Cond.value]), lw_limb limb_1_2 (fun args s t => Cond.after_iff.mpr (by
  first | (rw [show limb_1_2 = Cond.eq .result (.int 1) from rfl, Cond.eq_ints (x := 1) (y := 1) rfl rfl]; simp; done) | (simp [limb_1_2, Cond.value, Term.eval]; done)))⟩
