/-- but for these fields of the model nothing has changed -/
def lk_fx (S : List Nat) (σ W : lk_N) : Prop := ∀ o f i, ¬ (o = 1 ∧ f ∈ S) → W o f i = σ o f i
theorem lk_fx_rf (S : List Nat) (σ : lk_N) : lk_fx S σ σ := fun _ _ _ _ => rfl
theorem lk_fx_up {S : List Nat} {σ W : lk_N} {f i : Nat} {v : Int32} (h : lk_fx S σ W) (hf : f ∈ S) : lk_fx S σ (lk_up W 1 f i v) := fun o g j hn => by
  simp only [lk_up]
  rw [if_neg (by rintro ⟨rfl, rfl, _⟩; exact hn ⟨rfl, hf⟩)]
  exact h o g j hn
theorem lk_fx_bar {S : List Nat} {σ W : lk_N} {q : Int32 × Nat × Int32} (h : lk_fx S σ W) (h7 : 7 ∈ S) (h8 : 8 ∈ S) (h9 : 9 ∈ S) : lk_fx S σ (lk_bar W q) := lk_fx_up (lk_fx_up (lk_fx_up h h7) h8) h9
theorem lk_fx_cau {S : List Nat} {σ W : lk_N} {k : Nat} {q : Int32 × Nat × Int32} (h : lk_fx S σ W) (h7 : 10 ∈ S) (h8 : 11 ∈ S) : lk_fx S σ (lk_cau W k q) := lk_fx_up (lk_fx_up (lk_fx_up (lk_fx_up (lk_fx_up h h7) h8) h8) h8) h8
theorem lk_fx_tr {S : List Nat} {σ W U : lk_N} (h : lk_fx S σ W) (g : lk_fx S W U) : lk_fx S σ U := fun o f i hn => (g o f i hn).trans (h o f i hn)
theorem lk_fx_mo {S R : List Nat} {σ W : lk_N} (h : lk_fx S σ W) (hs : ∀ f ∈ S, f ∈ R) : lk_fx R σ W := fun o f i hn => h o f i (fun z => hn ⟨z.1, hs _ z.2⟩)
/-- the cause, as it is kept -/
def lk_kz (σ W : lk_N) : Option (Nat × Int32 × Nat × Int32) → Prop
  | none => W 1 10 0 = σ 1 10 0 ∧ W 1 11 = σ 1 11
  | some (k, q) => W 1 10 0 = 1 ∧ W 1 11 0 = nI k ∧ W 1 11 1 = q.1 ∧ W 1 11 2 = nI q.2.1 ∧ W 1 11 3 = q.2.2
def lk_end (x : Int32) : Option (Nat × Int32 × Nat × Int32) → Int32
  | none => x
  | some (k, _) => nI k
def lk_jb : Option (Nat × Int32 × Nat × Int32) → Int32
  | none => 1
  | some _ => 0
def lk_cxP (t : Nat) (σ W : lk_N) (c : Nat) (j : Option (Nat × Int32 × Nat × Int32)) : Prop :=
  lk_fx [6, 7, 8, 9, 10, 11, 22, 24] σ W ∧ W 1 22 0 = σ 1 22 0 + nI c ∧ W 1 24 0 = lk_end (σ 1 24 0) j ∧ lk_kz σ W (if t = 1 then j else none)
theorem lk_pred2 {n i : Nat} (h : i < n) (hn : n < 2147483648) : nI n - 1 - nI i = nI (n - 1 - i) := by
  rw [lk_sub1 (by omega) hn]
  apply Int32.toInt_inj.mp
  rw [Int32.toInt_sub, nI_toInt (by omega), nI_toInt (by omega), nI_toInt (by omega), Int.bmod_eq_of_le] <;> omega
theorem lk_trv_ok {up : Bool} {z : Int32} {n : Nat} (hz : 0 ≤ z.toInt) (hz9 : z.toInt ≤ 9) : ∀ (ks : List Nat) (V T : lk_O), (∀ k ∈ ks, k < n) → lk_cok V n → lk_rok V → lk_rok (lk_trv up z ks V T).2.2.1
  | [], V, T, _, h, hr => hr
  | k :: ks, V, T, hk, h, hr => by
    unfold lk_trv
    cases hp : lk_pas V k up z with
    | inr q => exact hr
    | inl V' =>
      have hkn := hk k List.mem_cons_self
      exact lk_trv_ok (up := up) hz hz9 ks V' _ (fun a ha => hk a (List.mem_cons_of_mem _ ha)) (lk_pas_cok hp hkn h hz hz9) (lk_pas_rok hr (Nat.lt_of_lt_of_le hkn h.2.2.1) hp)
set_option maxHeartbeats 1000000 in
set_option maxRecDepth 100000 in
theorem tX9_crosses_up1 (l : Launch) (X : lk_G) (d : Nat) (σ : lk_N) (τ : lk_T) (V T : lk_O) (n : Nat) (hV : lk_cok V n) (hr : lk_rok V) : lk_Mt l X mX9_crosses (d + 4) [lk_vr 1 0, lk_vi 1, lk_vi 1] (lk_ms σ V T) τ (fun rr σ1 τ1 => rr = some (lk_vi (lk_jb (lk_trv true 0 (lk_lks true 0 n) V T).2.1)) ∧ τ1 = τ ∧ ∃ W : lk_N, σ1 = lk_ms W (lk_trv true 0 (lk_lks true 0 n) V T).2.2.1 (lk_trv true 0 (lk_lks true 0 n) V T).2.2.2 ∧ lk_cxP 1 σ W (lk_trv true 0 (lk_lks true 0 n) V T).1 (lk_trv true 0 (lk_lks true 0 n) V T).2.1) := by
  refine lk_met (L := [(0, lk_vr 1 0), (1, lk_vi 1), (2, lk_vi 1)]) (by decide +kernel) (Nat.le_of_ble_eq_true rfl) rfl ?_
  obtain ⟨Q, hQ⟩ : ∃ Q : lk_Q, Q = fun rr σ1 τ1 => rr = some (lk_vi (lk_jb (lk_trv true 0 (lk_lks true 0 n) V T).2.1)) ∧ τ1 = τ ∧ ∃ W : lk_N, σ1 = lk_ms W (lk_trv true 0 (lk_lks true 0 n) V T).2.2.1 (lk_trv true 0 (lk_lks true 0 n) V T).2.2.2 ∧ lk_cxP 1 σ W (lk_trv true 0 (lk_lks true 0 n) V T).1 (lk_trv true 0 (lk_lks true 0 n) V T).2.1 := ⟨_, rfl⟩
  rw [← hQ]
  have hn6 := hV.2.2.1
  refine lk_aload_n dX9_crosses_0 rfl rfl ?_
  refine lk_getR (f := 0) dX9_crosses_1 rfl fX9_9 (by decide) (by decide) ?_
  refine lk_bipush (v := 53) dX9_crosses_4 (by decide) ?_
  refine lk_ialdN (f := 0) (i := 53) dX9_crosses_6 rfl (by decide) rfl (by omega) (by decide) ?_
  refine lk_eqtop (y := (nI (n))) ((lk_r0 rfl rfl).trans hV.1) ?_
  refine lk_istore_n (L' := [(0, lk_vr 1 0), (1, lk_vi 1), (2, lk_vi 1), (3, lk_vi (nI (n)))]) dX9_crosses_7 rfl (by decide +kernel) rfl ?_
  refine lk_iconst (v := 0) dX9_crosses_8 (by decide) ?_
  refine lk_istore (L' := [(0, lk_vr 1 0), (1, lk_vi 1), (2, lk_vi 1), (3, lk_vi (nI (n))), (4, lk_vi 0)]) dX9_crosses_9 (by decide +kernel) rfl ?_
  have LP11 : ∀ (fu : Nat) (i : Nat) (W : lk_N) (V1 U1 : lk_O), i ≤ n → lk_cok V1 n → lk_rok V1 → lk_fx [6, 7, 8, 9, 10, 11, 22, 24] σ W → W 1 22 0 = σ 1 22 0 + nI i → W 1 24 0 = σ 1 24 0 → lk_kz σ W none → lk_trv true 0 (lk_lks true 0 n) V T = ((lk_trv true 0 (List.range' i (n - i)) V1 U1).1 + i, (lk_trv true 0 (List.range' i (n - i)) V1 U1).2) → n - i < fu → lk_W l X mX9_crosses (d + 4) 11 [(0, lk_vr 1 0), (1, lk_vi 1), (2, lk_vi 1), (3, lk_vi (nI (n))), (4, lk_vi (nI (i)))] [] (lk_ms W V1 U1) τ Q := by
    intro fu
    induction fu with
    | zero => intro i W V1 U1 hi hc hrk hWf hW2 hW4 hWk hI hfu; exact absurd hfu (by omega)
    | succ fu ih =>
      intro i W V1 U1 hi hc hrk hWf hW2 hW4 hWk hI hfu
      refine lk_iload dX9_crosses_11 rfl ?_
      refine lk_iload_n dX9_crosses_13 rfl rfl ?_
      refine lk_icmp_geN (a := i) (b := n) (tgt := 87) dX9_crosses_14 (by decide) (by omega) (by omega) (fun hh1 => ?_) (fun hh1 => ?_)
      ·
        refine lk_iconst (v := 1) dX9_crosses_87 (by decide) ?_
        refine lk_iret .boolean dX9_crosses_88 rfl rfl ?_
        rw [hQ]
        have e0 : n - i = 0 := by omega
        rw [e0] at hI
        simp only [List.range'_zero, lk_trv] at hI
        rw [hI]
        exact ⟨rfl, rfl, W, rfl, hWf, by rw [hW2]; simp, hW4, ⟨hWk.1, hWk.2⟩⟩
      ·
        have er : List.range' i (n - i) = i :: List.range' (i + 1) (n - (i + 1)) := by rw [show n - i = (n - (i + 1)) + 1 by omega, List.range'_succ]
        rw [er] at hI
        have hkn : i < n := by omega
        have hk6 : i < 6 := Nat.lt_of_lt_of_le hkn hc.2.2.1
        refine lk_iload_n dX9_crosses_17 rfl rfl ?_
        refine lk_if_eq (tgt := 26) dX9_crosses_18 (by decide) (fun hh2 => absurd hh2 (by decide)) (fun hh2 => ?_)
        refine lk_iload dX9_crosses_21 rfl ?_
        refine lk_goto (tgt := 32) dX9_crosses_23 (by decide) ?_
        refine lk_istore (L' := [(0, lk_vr 1 0), (1, lk_vi 1), (2, lk_vi 1), (3, lk_vi (nI (n))), (4, lk_vi (nI (i))), (5, lk_vi (nI (i)))]) dX9_crosses_32 (by decide +kernel) rfl ?_
        refine lk_iload_n dX9_crosses_34 rfl rfl ?_
        refine lk_if_eq (tgt := 52) dX9_crosses_35 (by decide) (fun hh3 => absurd hh3 (by decide)) (fun hh3 => ?_)
        refine lk_aload_n dX9_crosses_38 rfl rfl ?_
        refine lk_iload dX9_crosses_39 rfl ?_
        refine lk_iload_n dX9_crosses_41 rfl rfl ?_
        refine lk_iconst (v := 0) dX9_crosses_42 (by decide) ?_
        rcases hp : lk_pas V1 i true 0 with V2 | q
        ·
          refine lk_callV (o := 1) (as := [lk_vi (nI (i)), lk_vi 1, lk_vi 0]) (S := []) dX9_crosses_43 rfl vX9_goesTruly rfl lX9_154 rfl rfl (Nat.le_of_ble_eq_true rfl) (tX9_truly_up_ok l X d W τ (k := (i)) (z := (0 : Int32)) (V := V1) (T := U1) (n := n) (hV := hc) (hr := hrk) (hk := hkn) (hz := by decide) (hz9 := by decide) (W := V2) (h := hp)) ?_
          refine lk_k3 ?_
          refine lk_cast (pc' := 46) (S' := [lk_vi 1]) rfl rfl rfl ?_
          refine lk_if_ne (tgt := 71) dX9_crosses_46 (by decide) (fun hh4 => ?_) (fun hh4 => absurd hh4 (by decide))
          refine lk_aload_n dX9_crosses_71 rfl rfl ?_
          refine lk_dup dX9_crosses_72 rfl ?_
          refine lk_getIv (v := (W 1 22 (0))) (f := 22) dX9_crosses_73 rfl fX9_196 (by decide) (by decide) ((lk_rf (by decide)).trans rfl) ?_
          refine lk_iconst (v := 1) dX9_crosses_76 (by decide) ?_
          refine lk_iadd dX9_crosses_77 ?_
          refine lk_putI (f := 22) dX9_crosses_78 rfl fX9_196 (by decide) (by decide) ?_
          refine lk_sg (σ' := (lk_ms (lk_up (lk_up W 1 6 0 (V1 6 ((i) + 1) - V2 6 ((i) + 1))) 1 22 0 ((W 1 22 (0)) + 1)) V2 (lk_tad U1 (V1 6 ((i) + 1) - V2 6 ((i) + 1))))) (lk_wf (by decide)) ?_
          refine lk_iincN (a := i) (m := 1) (L' := [(0, lk_vr 1 0), (1, lk_vi 1), (2, lk_vi 1), (3, lk_vi (nI (n))), (4, lk_vi (nI (i + 1))), (5, lk_vi (nI (i)))]) dX9_crosses_81 rfl rfl (by decide +kernel) rfl ?_
          refine lk_goto (tgt := 11) dX9_crosses_84 (by decide) ?_
          refine lk_sub (L' := [(0, lk_vr 1 0), (1, lk_vi 1), (2, lk_vi 1), (3, lk_vi (nI (n))), (4, lk_vi (nI (i + 1)))]) [0, 1, 2, 3, 4] rfl ?_
          simp only [lk_trv, hp] at hI
          exact ih (i + 1) ((lk_up (lk_up W 1 6 0 (V1 6 ((i) + 1) - V2 6 ((i) + 1))) 1 22 0 ((W 1 22 (0)) + 1))) V2 (lk_tad U1 (V1 6 (i + 1) - V2 6 (i + 1))) (by omega) (lk_pas_cok hp hkn hc (by decide) (by decide)) (lk_pas_rok hrk hk6 hp) (lk_fx_up (lk_fx_up hWf (by decide)) (by decide)) (by
            show W 1 22 0 + 1 = _
            rw [hW2, Int32.add_assoc]; congr 1; exact nI_add _ 1) hW4 ⟨hWk.1, hWk.2⟩ (by rw [hI]; congr 1; omega) (by omega)
        ·
          refine lk_callV (o := 1) (as := [lk_vi (nI (i)), lk_vi 1, lk_vi 0]) (S := []) dX9_crosses_43 rfl vX9_goesTruly rfl lX9_154 rfl rfl (Nat.le_of_ble_eq_true rfl) (tX9_truly_up_no l X d W τ (k := (i)) (z := (0 : Int32)) (V := V1) (T := U1) (n := n) (hV := hc) (hr := hrk) (hk := hkn) (q := q) (h := hp)) ?_
          refine lk_k5 (fun s1 => ?_)
          refine lk_cast (pc' := 46) (S' := [lk_vi 0]) rfl rfl rfl ?_
          refine lk_sg (σ' := (lk_ms (lk_cau (lk_up (lk_bar W q) 1 6 0 s1) i q) V1 U1)) rfl ?_
          refine lk_if_ne (tgt := 71) dX9_crosses_46 (by decide) (fun hh5 => absurd hh5 (by decide)) (fun hh5 => ?_)
          refine lk_goto (tgt := 63) dX9_crosses_49 (by decide) ?_
          refine lk_aload_n dX9_crosses_63 rfl rfl ?_
          refine lk_iload dX9_crosses_64 rfl ?_
          refine lk_putI (f := 24) dX9_crosses_66 rfl fX9_209 (by decide) (by decide) ?_
          refine lk_sg (σ' := (lk_ms (lk_up (lk_cau (lk_up (lk_bar W q) 1 6 0 s1) i q) 1 24 0 (nI (i))) V1 U1)) (lk_wf (by decide)) ?_
          refine lk_iconst (v := 0) dX9_crosses_69 (by decide) ?_
          refine lk_iret .boolean dX9_crosses_70 rfl rfl ?_
          rw [hQ]
          simp only [lk_trv, hp] at hI
          rw [hI]
          exact ⟨rfl, rfl, (lk_up (lk_cau (lk_up (lk_bar W q) 1 6 0 s1) i q) 1 24 0 (nI (i))), rfl, (lk_fx_up (lk_fx_cau (lk_fx_up (lk_fx_bar hWf (by decide) (by decide) (by decide)) (by decide)) (by decide) (by decide)) (by decide)), by show W 1 22 0 = _; rw [hW2, Nat.zero_add], rfl, ⟨rfl, rfl, rfl, rfl, rfl⟩⟩
  exact LP11 (n + 1) 0 σ V T (by omega) hV hr (lk_fx_rf _ _) (by simp [nI]) rfl ⟨rfl, rfl⟩ (by simp [lk_lks]) (by omega)

set_option maxHeartbeats 1000000 in
set_option maxRecDepth 100000 in
theorem tX9_crosses_up0 (l : Launch) (X : lk_G) (d : Nat) (σ : lk_N) (τ : lk_T) (V T : lk_O) (n : Nat) (hV : lk_cok V n) (hr : lk_rok V) : lk_Mt l X mX9_crosses (d + 4) [lk_vr 1 0, lk_vi 1, lk_vi 0] (lk_ms σ V T) τ (fun rr σ1 τ1 => rr = some (lk_vi (lk_jb (lk_trv true 0 (lk_lks true 0 n) V T).2.1)) ∧ τ1 = τ ∧ ∃ W : lk_N, σ1 = lk_ms W (lk_trv true 0 (lk_lks true 0 n) V T).2.2.1 T ∧ lk_cxP 0 σ W (lk_trv true 0 (lk_lks true 0 n) V T).1 (lk_trv true 0 (lk_lks true 0 n) V T).2.1) := by
  refine lk_met (L := [(0, lk_vr 1 0), (1, lk_vi 1), (2, lk_vi 0)]) (by decide +kernel) (Nat.le_of_ble_eq_true rfl) rfl ?_
  obtain ⟨Q, hQ⟩ : ∃ Q : lk_Q, Q = fun rr σ1 τ1 => rr = some (lk_vi (lk_jb (lk_trv true 0 (lk_lks true 0 n) V T).2.1)) ∧ τ1 = τ ∧ ∃ W : lk_N, σ1 = lk_ms W (lk_trv true 0 (lk_lks true 0 n) V T).2.2.1 T ∧ lk_cxP 0 σ W (lk_trv true 0 (lk_lks true 0 n) V T).1 (lk_trv true 0 (lk_lks true 0 n) V T).2.1 := ⟨_, rfl⟩
  rw [← hQ]
  have hn6 := hV.2.2.1
  refine lk_aload_n dX9_crosses_0 rfl rfl ?_
  refine lk_getR (f := 0) dX9_crosses_1 rfl fX9_9 (by decide) (by decide) ?_
  refine lk_bipush (v := 53) dX9_crosses_4 (by decide) ?_
  refine lk_ialdN (f := 0) (i := 53) dX9_crosses_6 rfl (by decide) rfl (by omega) (by decide) ?_
  refine lk_eqtop (y := (nI (n))) ((lk_r0 rfl rfl).trans hV.1) ?_
  refine lk_istore_n (L' := [(0, lk_vr 1 0), (1, lk_vi 1), (2, lk_vi 0), (3, lk_vi (nI (n)))]) dX9_crosses_7 rfl (by decide +kernel) rfl ?_
  refine lk_iconst (v := 0) dX9_crosses_8 (by decide) ?_
  refine lk_istore (L' := [(0, lk_vr 1 0), (1, lk_vi 1), (2, lk_vi 0), (3, lk_vi (nI (n))), (4, lk_vi 0)]) dX9_crosses_9 (by decide +kernel) rfl ?_
  have LP11 : ∀ (fu : Nat) (i : Nat) (W : lk_N) (V1 U1 : lk_O), i ≤ n → lk_cok V1 n → lk_rok V1 → lk_fx [6, 7, 8, 9, 10, 11, 22, 24] σ W → W 1 22 0 = σ 1 22 0 + nI i → W 1 24 0 = σ 1 24 0 → lk_kz σ W none → lk_trv true 0 (lk_lks true 0 n) V T = ((lk_trv true 0 (List.range' i (n - i)) V1 U1).1 + i, (lk_trv true 0 (List.range' i (n - i)) V1 U1).2) → n - i < fu → lk_W l X mX9_crosses (d + 4) 11 [(0, lk_vr 1 0), (1, lk_vi 1), (2, lk_vi 0), (3, lk_vi (nI (n))), (4, lk_vi (nI (i)))] [] (lk_ms W V1 T) τ Q := by
    intro fu
    induction fu with
    | zero => intro i W V1 U1 hi hc hrk hWf hW2 hW4 hWk hI hfu; exact absurd hfu (by omega)
    | succ fu ih =>
      intro i W V1 U1 hi hc hrk hWf hW2 hW4 hWk hI hfu
      refine lk_iload dX9_crosses_11 rfl ?_
      refine lk_iload_n dX9_crosses_13 rfl rfl ?_
      refine lk_icmp_geN (a := i) (b := n) (tgt := 87) dX9_crosses_14 (by decide) (by omega) (by omega) (fun hh1 => ?_) (fun hh1 => ?_)
      ·
        refine lk_iconst (v := 1) dX9_crosses_87 (by decide) ?_
        refine lk_iret .boolean dX9_crosses_88 rfl rfl ?_
        rw [hQ]
        have e0 : n - i = 0 := by omega
        rw [e0] at hI
        simp only [List.range'_zero, lk_trv] at hI
        rw [hI]
        exact ⟨rfl, rfl, W, rfl, hWf, by rw [hW2]; simp, hW4, ⟨hWk.1, hWk.2⟩⟩
      ·
        have er : List.range' i (n - i) = i :: List.range' (i + 1) (n - (i + 1)) := by rw [show n - i = (n - (i + 1)) + 1 by omega, List.range'_succ]
        rw [er] at hI
        have hkn : i < n := by omega
        have hk6 : i < 6 := Nat.lt_of_lt_of_le hkn hc.2.2.1
        refine lk_iload_n dX9_crosses_17 rfl rfl ?_
        refine lk_if_eq (tgt := 26) dX9_crosses_18 (by decide) (fun hh2 => absurd hh2 (by decide)) (fun hh2 => ?_)
        refine lk_iload dX9_crosses_21 rfl ?_
        refine lk_goto (tgt := 32) dX9_crosses_23 (by decide) ?_
        refine lk_istore (L' := [(0, lk_vr 1 0), (1, lk_vi 1), (2, lk_vi 0), (3, lk_vi (nI (n))), (4, lk_vi (nI (i))), (5, lk_vi (nI (i)))]) dX9_crosses_32 (by decide +kernel) rfl ?_
        refine lk_iload_n dX9_crosses_34 rfl rfl ?_
        refine lk_if_eq (tgt := 52) dX9_crosses_35 (by decide) (fun hh3 => ?_) (fun hh3 => absurd hh3 (by decide))
        refine lk_aload_n dX9_crosses_52 rfl rfl ?_
        refine lk_iload dX9_crosses_53 rfl ?_
        refine lk_iload_n dX9_crosses_55 rfl rfl ?_
        refine lk_iconst (v := 0) dX9_crosses_56 (by decide) ?_
        rcases hp : lk_pas V1 i true 0 with V2 | q
        ·
          refine lk_callV (o := 1) (as := [lk_vi (nI (i)), lk_vi 1, lk_vi 0]) (S := []) dX9_crosses_57 rfl vX9_goes rfl lX9_140 rfl rfl (Nat.le_of_ble_eq_true rfl) (tX9_goes_up_ok l X (d + 1) W τ (k := (i)) (z := (0 : Int32)) (V := V1) (T := T) (n := n) (hV := hc) (hr := hrk) (hk := hkn) (W := V2) (h := hp)) ?_
          refine lk_k3 ?_
          refine lk_cast (pc' := 60) (S' := [lk_vi 1]) rfl rfl rfl ?_
          refine lk_if_ne (tgt := 71) dX9_crosses_60 (by decide) (fun hh4 => ?_) (fun hh4 => absurd hh4 (by decide))
          refine lk_aload_n dX9_crosses_71 rfl rfl ?_
          refine lk_dup dX9_crosses_72 rfl ?_
          refine lk_getIv (v := (W 1 22 (0))) (f := 22) dX9_crosses_73 rfl fX9_196 (by decide) (by decide) ((lk_rf (by decide)).trans rfl) ?_
          refine lk_iconst (v := 1) dX9_crosses_76 (by decide) ?_
          refine lk_iadd dX9_crosses_77 ?_
          refine lk_putI (f := 22) dX9_crosses_78 rfl fX9_196 (by decide) (by decide) ?_
          refine lk_sg (σ' := (lk_ms (lk_up (lk_up W 1 6 0 (V1 6 ((i) + 1) - V2 6 ((i) + 1))) 1 22 0 ((W 1 22 (0)) + 1)) V2 T)) (lk_wf (by decide)) ?_
          refine lk_iincN (a := i) (m := 1) (L' := [(0, lk_vr 1 0), (1, lk_vi 1), (2, lk_vi 0), (3, lk_vi (nI (n))), (4, lk_vi (nI (i + 1))), (5, lk_vi (nI (i)))]) dX9_crosses_81 rfl rfl (by decide +kernel) rfl ?_
          refine lk_goto (tgt := 11) dX9_crosses_84 (by decide) ?_
          refine lk_sub (L' := [(0, lk_vr 1 0), (1, lk_vi 1), (2, lk_vi 0), (3, lk_vi (nI (n))), (4, lk_vi (nI (i + 1)))]) [0, 1, 2, 3, 4] rfl ?_
          simp only [lk_trv, hp] at hI
          exact ih (i + 1) ((lk_up (lk_up W 1 6 0 (V1 6 ((i) + 1) - V2 6 ((i) + 1))) 1 22 0 ((W 1 22 (0)) + 1))) V2 (lk_tad U1 (V1 6 (i + 1) - V2 6 (i + 1))) (by omega) (lk_pas_cok hp hkn hc (by decide) (by decide)) (lk_pas_rok hrk hk6 hp) (lk_fx_up (lk_fx_up hWf (by decide)) (by decide)) (by
            show W 1 22 0 + 1 = _
            rw [hW2, Int32.add_assoc]; congr 1; exact nI_add _ 1) hW4 ⟨hWk.1, hWk.2⟩ (by rw [hI]; congr 1; omega) (by omega)
        ·
          refine lk_callV (o := 1) (as := [lk_vi (nI (i)), lk_vi 1, lk_vi 0]) (S := []) dX9_crosses_57 rfl vX9_goes rfl lX9_140 rfl rfl (Nat.le_of_ble_eq_true rfl) (tX9_goes_up_no l X (d + 1) W τ (k := (i)) (z := (0 : Int32)) (V := V1) (T := T) (n := n) (hV := hc) (hr := hrk) (hk := hkn) (q := q) (h := hp)) ?_
          refine lk_k5 (fun s1 => ?_)
          refine lk_cast (pc' := 60) (S' := [lk_vi 0]) rfl rfl rfl ?_
          refine lk_sg (σ' := (lk_ms (lk_up (lk_bar W q) 1 6 0 s1) V1 T)) rfl ?_
          refine lk_if_ne (tgt := 71) dX9_crosses_60 (by decide) (fun hh5 => absurd hh5 (by decide)) (fun hh5 => ?_)
          refine lk_aload_n dX9_crosses_63 rfl rfl ?_
          refine lk_iload dX9_crosses_64 rfl ?_
          refine lk_putI (f := 24) dX9_crosses_66 rfl fX9_209 (by decide) (by decide) ?_
          refine lk_sg (σ' := (lk_ms (lk_up (lk_up (lk_bar W q) 1 6 0 s1) 1 24 0 (nI (i))) V1 T)) (lk_wf (by decide)) ?_
          refine lk_iconst (v := 0) dX9_crosses_69 (by decide) ?_
          refine lk_iret .boolean dX9_crosses_70 rfl rfl ?_
          rw [hQ]
          simp only [lk_trv, hp] at hI
          rw [hI]
          exact ⟨rfl, rfl, (lk_up (lk_up (lk_bar W q) 1 6 0 s1) 1 24 0 (nI (i))), rfl, (lk_fx_up (lk_fx_up (lk_fx_bar hWf (by decide) (by decide) (by decide)) (by decide)) (by decide)), by show W 1 22 0 = _; rw [hW2, Nat.zero_add], rfl, ⟨hWk.1, hWk.2⟩⟩
  exact LP11 (n + 1) 0 σ V T (by omega) hV hr (lk_fx_rf _ _) (by simp [nI]) rfl ⟨rfl, rfl⟩ (by simp [lk_lks]) (by omega)

set_option maxHeartbeats 1000000 in
set_option maxRecDepth 100000 in
theorem tX9_crosses_dn1 (l : Launch) (X : lk_G) (d : Nat) (σ : lk_N) (τ : lk_T) (V T : lk_O) (n : Nat) (hV : lk_cok V n) (hr : lk_rok V) : lk_Mt l X mX9_crosses (d + 4) [lk_vr 1 0, lk_vi 0, lk_vi 1] (lk_ms σ V T) τ (fun rr σ1 τ1 => rr = some (lk_vi (lk_jb (lk_trv false 0 (lk_lks false n n) V T).2.1)) ∧ τ1 = τ ∧ ∃ W : lk_N, σ1 = lk_ms W (lk_trv false 0 (lk_lks false n n) V T).2.2.1 (lk_trv false 0 (lk_lks false n n) V T).2.2.2 ∧ lk_cxP 1 σ W (lk_trv false 0 (lk_lks false n n) V T).1 (lk_trv false 0 (lk_lks false n n) V T).2.1) := by
  refine lk_met (L := [(0, lk_vr 1 0), (1, lk_vi 0), (2, lk_vi 1)]) (by decide +kernel) (Nat.le_of_ble_eq_true rfl) rfl ?_
  obtain ⟨Q, hQ⟩ : ∃ Q : lk_Q, Q = fun rr σ1 τ1 => rr = some (lk_vi (lk_jb (lk_trv false 0 (lk_lks false n n) V T).2.1)) ∧ τ1 = τ ∧ ∃ W : lk_N, σ1 = lk_ms W (lk_trv false 0 (lk_lks false n n) V T).2.2.1 (lk_trv false 0 (lk_lks false n n) V T).2.2.2 ∧ lk_cxP 1 σ W (lk_trv false 0 (lk_lks false n n) V T).1 (lk_trv false 0 (lk_lks false n n) V T).2.1 := ⟨_, rfl⟩
  rw [← hQ]
  have hn6 := hV.2.2.1
  refine lk_aload_n dX9_crosses_0 rfl rfl ?_
  refine lk_getR (f := 0) dX9_crosses_1 rfl fX9_9 (by decide) (by decide) ?_
  refine lk_bipush (v := 53) dX9_crosses_4 (by decide) ?_
  refine lk_ialdN (f := 0) (i := 53) dX9_crosses_6 rfl (by decide) rfl (by omega) (by decide) ?_
  refine lk_eqtop (y := (nI (n))) ((lk_r0 rfl rfl).trans hV.1) ?_
  refine lk_istore_n (L' := [(0, lk_vr 1 0), (1, lk_vi 0), (2, lk_vi 1), (3, lk_vi (nI (n)))]) dX9_crosses_7 rfl (by decide +kernel) rfl ?_
  refine lk_iconst (v := 0) dX9_crosses_8 (by decide) ?_
  refine lk_istore (L' := [(0, lk_vr 1 0), (1, lk_vi 0), (2, lk_vi 1), (3, lk_vi (nI (n))), (4, lk_vi 0)]) dX9_crosses_9 (by decide +kernel) rfl ?_
  have LP11 : ∀ (fu : Nat) (i : Nat) (W : lk_N) (V1 U1 : lk_O), i ≤ n → lk_cok V1 n → lk_rok V1 → lk_fx [6, 7, 8, 9, 10, 11, 22, 24] σ W → W 1 22 0 = σ 1 22 0 + nI i → W 1 24 0 = σ 1 24 0 → lk_kz σ W none → lk_trv false 0 (lk_lks false n n) V T = ((lk_trv false 0 (List.range (n - i)).reverse V1 U1).1 + i, (lk_trv false 0 (List.range (n - i)).reverse V1 U1).2) → n - i < fu → lk_W l X mX9_crosses (d + 4) 11 [(0, lk_vr 1 0), (1, lk_vi 0), (2, lk_vi 1), (3, lk_vi (nI (n))), (4, lk_vi (nI (i)))] [] (lk_ms W V1 U1) τ Q := by
    intro fu
    induction fu with
    | zero => intro i W V1 U1 hi hc hrk hWf hW2 hW4 hWk hI hfu; exact absurd hfu (by omega)
    | succ fu ih =>
      intro i W V1 U1 hi hc hrk hWf hW2 hW4 hWk hI hfu
      refine lk_iload dX9_crosses_11 rfl ?_
      refine lk_iload_n dX9_crosses_13 rfl rfl ?_
      refine lk_icmp_geN (a := i) (b := n) (tgt := 87) dX9_crosses_14 (by decide) (by omega) (by omega) (fun hh1 => ?_) (fun hh1 => ?_)
      ·
        refine lk_iconst (v := 1) dX9_crosses_87 (by decide) ?_
        refine lk_iret .boolean dX9_crosses_88 rfl rfl ?_
        rw [hQ]
        have e0 : n - i = 0 := by omega
        rw [e0] at hI
        simp only [List.range_zero, List.reverse_nil, lk_trv] at hI
        rw [hI]
        exact ⟨rfl, rfl, W, rfl, hWf, by rw [hW2]; simp, hW4, ⟨hWk.1, hWk.2⟩⟩
      ·
        have er : (List.range (n - i)).reverse = (n - 1 - i) :: (List.range (n - (i + 1))).reverse := by rw [show n - i = (n - (i + 1)) + 1 by omega, List.range_succ, show n - (i + 1) = n - 1 - i by omega]; simp
        rw [er] at hI
        have hkn : (n - 1 - i) < n := by omega
        have hk6 : (n - 1 - i) < 6 := Nat.lt_of_lt_of_le hkn hc.2.2.1
        refine lk_iload_n dX9_crosses_17 rfl rfl ?_
        refine lk_if_eq (tgt := 26) dX9_crosses_18 (by decide) (fun hh2 => ?_) (fun hh2 => absurd hh2 (by decide))
        refine lk_iload_n dX9_crosses_26 rfl rfl ?_
        refine lk_iconst (v := 1) dX9_crosses_27 (by decide) ?_
        refine lk_isub dX9_crosses_28 ?_
        refine lk_iload dX9_crosses_29 rfl ?_
        refine lk_isub dX9_crosses_31 ?_
        rw [lk_pred2 (show i < n by omega) (by omega)]
        refine lk_istore (L' := [(0, lk_vr 1 0), (1, lk_vi 0), (2, lk_vi 1), (3, lk_vi (nI (n))), (4, lk_vi (nI (i))), (5, lk_vi (nI (n - 1 - i)))]) dX9_crosses_32 (by decide +kernel) rfl ?_
        refine lk_iload_n dX9_crosses_34 rfl rfl ?_
        refine lk_if_eq (tgt := 52) dX9_crosses_35 (by decide) (fun hh3 => absurd hh3 (by decide)) (fun hh3 => ?_)
        refine lk_aload_n dX9_crosses_38 rfl rfl ?_
        refine lk_iload dX9_crosses_39 rfl ?_
        refine lk_iload_n dX9_crosses_41 rfl rfl ?_
        refine lk_iconst (v := 0) dX9_crosses_42 (by decide) ?_
        rcases hp : lk_pas V1 (n - 1 - i) false 0 with V2 | q
        ·
          refine lk_callV (o := 1) (as := [lk_vi (nI (n - 1 - i)), lk_vi 0, lk_vi 0]) (S := []) dX9_crosses_43 rfl vX9_goesTruly rfl lX9_154 rfl rfl (Nat.le_of_ble_eq_true rfl) (tX9_truly_dn_ok l X d W τ (k := (n - 1 - i)) (z := (0 : Int32)) (V := V1) (T := U1) (n := n) (hV := hc) (hr := hrk) (hk := hkn) (hz := by decide) (hz9 := by decide) (W := V2) (h := hp)) ?_
          refine lk_k3 ?_
          refine lk_cast (pc' := 46) (S' := [lk_vi 1]) rfl rfl rfl ?_
          refine lk_if_ne (tgt := 71) dX9_crosses_46 (by decide) (fun hh4 => ?_) (fun hh4 => absurd hh4 (by decide))
          refine lk_aload_n dX9_crosses_71 rfl rfl ?_
          refine lk_dup dX9_crosses_72 rfl ?_
          refine lk_getIv (v := (W 1 22 (0))) (f := 22) dX9_crosses_73 rfl fX9_196 (by decide) (by decide) ((lk_rf (by decide)).trans rfl) ?_
          refine lk_iconst (v := 1) dX9_crosses_76 (by decide) ?_
          refine lk_iadd dX9_crosses_77 ?_
          refine lk_putI (f := 22) dX9_crosses_78 rfl fX9_196 (by decide) (by decide) ?_
          refine lk_sg (σ' := (lk_ms (lk_up (lk_up W 1 6 0 (V1 6 ((n - 1 - i) + 1) - V2 6 ((n - 1 - i) + 1))) 1 22 0 ((W 1 22 (0)) + 1)) V2 (lk_tad U1 (V1 6 ((n - 1 - i) + 1) - V2 6 ((n - 1 - i) + 1))))) (lk_wf (by decide)) ?_
          refine lk_iincN (a := i) (m := 1) (L' := [(0, lk_vr 1 0), (1, lk_vi 0), (2, lk_vi 1), (3, lk_vi (nI (n))), (4, lk_vi (nI (i + 1))), (5, lk_vi (nI (n - 1 - i)))]) dX9_crosses_81 rfl rfl (by decide +kernel) rfl ?_
          refine lk_goto (tgt := 11) dX9_crosses_84 (by decide) ?_
          refine lk_sub (L' := [(0, lk_vr 1 0), (1, lk_vi 0), (2, lk_vi 1), (3, lk_vi (nI (n))), (4, lk_vi (nI (i + 1)))]) [0, 1, 2, 3, 4] rfl ?_
          simp only [lk_trv, hp] at hI
          exact ih (i + 1) ((lk_up (lk_up W 1 6 0 (V1 6 ((n - 1 - i) + 1) - V2 6 ((n - 1 - i) + 1))) 1 22 0 ((W 1 22 (0)) + 1))) V2 (lk_tad U1 (V1 6 ((n - 1 - i) + 1) - V2 6 ((n - 1 - i) + 1))) (by omega) (lk_pas_cok hp hkn hc (by decide) (by decide)) (lk_pas_rok hrk hk6 hp) (lk_fx_up (lk_fx_up hWf (by decide)) (by decide)) (by
            show W 1 22 0 + 1 = _
            rw [hW2, Int32.add_assoc]; congr 1; exact nI_add _ 1) hW4 ⟨hWk.1, hWk.2⟩ (by rw [hI]; congr 1; omega) (by omega)
        ·
          refine lk_callV (o := 1) (as := [lk_vi (nI (n - 1 - i)), lk_vi 0, lk_vi 0]) (S := []) dX9_crosses_43 rfl vX9_goesTruly rfl lX9_154 rfl rfl (Nat.le_of_ble_eq_true rfl) (tX9_truly_dn_no l X d W τ (k := (n - 1 - i)) (z := (0 : Int32)) (V := V1) (T := U1) (n := n) (hV := hc) (hr := hrk) (hk := hkn) (q := q) (h := hp)) ?_
          refine lk_k5 (fun s1 => ?_)
          refine lk_cast (pc' := 46) (S' := [lk_vi 0]) rfl rfl rfl ?_
          refine lk_sg (σ' := (lk_ms (lk_cau (lk_up (lk_bar W q) 1 6 0 s1) (n - 1 - i) q) V1 U1)) rfl ?_
          refine lk_if_ne (tgt := 71) dX9_crosses_46 (by decide) (fun hh5 => absurd hh5 (by decide)) (fun hh5 => ?_)
          refine lk_goto (tgt := 63) dX9_crosses_49 (by decide) ?_
          refine lk_aload_n dX9_crosses_63 rfl rfl ?_
          refine lk_iload dX9_crosses_64 rfl ?_
          refine lk_putI (f := 24) dX9_crosses_66 rfl fX9_209 (by decide) (by decide) ?_
          refine lk_sg (σ' := (lk_ms (lk_up (lk_cau (lk_up (lk_bar W q) 1 6 0 s1) (n - 1 - i) q) 1 24 0 (nI (n - 1 - i))) V1 U1)) (lk_wf (by decide)) ?_
          refine lk_iconst (v := 0) dX9_crosses_69 (by decide) ?_
          refine lk_iret .boolean dX9_crosses_70 rfl rfl ?_
          rw [hQ]
          simp only [lk_trv, hp] at hI
          rw [hI]
          exact ⟨rfl, rfl, (lk_up (lk_cau (lk_up (lk_bar W q) 1 6 0 s1) (n - 1 - i) q) 1 24 0 (nI (n - 1 - i))), rfl, (lk_fx_up (lk_fx_cau (lk_fx_up (lk_fx_bar hWf (by decide) (by decide) (by decide)) (by decide)) (by decide) (by decide)) (by decide)), by show W 1 22 0 = _; rw [hW2, Nat.zero_add], rfl, ⟨rfl, rfl, rfl, rfl, rfl⟩⟩
  exact LP11 (n + 1) 0 σ V T (by omega) hV hr (lk_fx_rf _ _) (by simp [nI]) rfl ⟨rfl, rfl⟩ (by simp [lk_lks]) (by omega)

set_option maxHeartbeats 1000000 in
set_option maxRecDepth 100000 in
theorem tX9_crosses_dn0 (l : Launch) (X : lk_G) (d : Nat) (σ : lk_N) (τ : lk_T) (V T : lk_O) (n : Nat) (hV : lk_cok V n) (hr : lk_rok V) : lk_Mt l X mX9_crosses (d + 4) [lk_vr 1 0, lk_vi 0, lk_vi 0] (lk_ms σ V T) τ (fun rr σ1 τ1 => rr = some (lk_vi (lk_jb (lk_trv false 0 (lk_lks false n n) V T).2.1)) ∧ τ1 = τ ∧ ∃ W : lk_N, σ1 = lk_ms W (lk_trv false 0 (lk_lks false n n) V T).2.2.1 T ∧ lk_cxP 0 σ W (lk_trv false 0 (lk_lks false n n) V T).1 (lk_trv false 0 (lk_lks false n n) V T).2.1) := by
  refine lk_met (L := [(0, lk_vr 1 0), (1, lk_vi 0), (2, lk_vi 0)]) (by decide +kernel) (Nat.le_of_ble_eq_true rfl) rfl ?_
  obtain ⟨Q, hQ⟩ : ∃ Q : lk_Q, Q = fun rr σ1 τ1 => rr = some (lk_vi (lk_jb (lk_trv false 0 (lk_lks false n n) V T).2.1)) ∧ τ1 = τ ∧ ∃ W : lk_N, σ1 = lk_ms W (lk_trv false 0 (lk_lks false n n) V T).2.2.1 T ∧ lk_cxP 0 σ W (lk_trv false 0 (lk_lks false n n) V T).1 (lk_trv false 0 (lk_lks false n n) V T).2.1 := ⟨_, rfl⟩
  rw [← hQ]
  have hn6 := hV.2.2.1
  refine lk_aload_n dX9_crosses_0 rfl rfl ?_
  refine lk_getR (f := 0) dX9_crosses_1 rfl fX9_9 (by decide) (by decide) ?_
  refine lk_bipush (v := 53) dX9_crosses_4 (by decide) ?_
  refine lk_ialdN (f := 0) (i := 53) dX9_crosses_6 rfl (by decide) rfl (by omega) (by decide) ?_
  refine lk_eqtop (y := (nI (n))) ((lk_r0 rfl rfl).trans hV.1) ?_
  refine lk_istore_n (L' := [(0, lk_vr 1 0), (1, lk_vi 0), (2, lk_vi 0), (3, lk_vi (nI (n)))]) dX9_crosses_7 rfl (by decide +kernel) rfl ?_
  refine lk_iconst (v := 0) dX9_crosses_8 (by decide) ?_
  refine lk_istore (L' := [(0, lk_vr 1 0), (1, lk_vi 0), (2, lk_vi 0), (3, lk_vi (nI (n))), (4, lk_vi 0)]) dX9_crosses_9 (by decide +kernel) rfl ?_
  have LP11 : ∀ (fu : Nat) (i : Nat) (W : lk_N) (V1 U1 : lk_O), i ≤ n → lk_cok V1 n → lk_rok V1 → lk_fx [6, 7, 8, 9, 10, 11, 22, 24] σ W → W 1 22 0 = σ 1 22 0 + nI i → W 1 24 0 = σ 1 24 0 → lk_kz σ W none → lk_trv false 0 (lk_lks false n n) V T = ((lk_trv false 0 (List.range (n - i)).reverse V1 U1).1 + i, (lk_trv false 0 (List.range (n - i)).reverse V1 U1).2) → n - i < fu → lk_W l X mX9_crosses (d + 4) 11 [(0, lk_vr 1 0), (1, lk_vi 0), (2, lk_vi 0), (3, lk_vi (nI (n))), (4, lk_vi (nI (i)))] [] (lk_ms W V1 T) τ Q := by
    intro fu
    induction fu with
    | zero => intro i W V1 U1 hi hc hrk hWf hW2 hW4 hWk hI hfu; exact absurd hfu (by omega)
    | succ fu ih =>
      intro i W V1 U1 hi hc hrk hWf hW2 hW4 hWk hI hfu
      refine lk_iload dX9_crosses_11 rfl ?_
      refine lk_iload_n dX9_crosses_13 rfl rfl ?_
      refine lk_icmp_geN (a := i) (b := n) (tgt := 87) dX9_crosses_14 (by decide) (by omega) (by omega) (fun hh1 => ?_) (fun hh1 => ?_)
      ·
        refine lk_iconst (v := 1) dX9_crosses_87 (by decide) ?_
        refine lk_iret .boolean dX9_crosses_88 rfl rfl ?_
        rw [hQ]
        have e0 : n - i = 0 := by omega
        rw [e0] at hI
        simp only [List.range_zero, List.reverse_nil, lk_trv] at hI
        rw [hI]
        exact ⟨rfl, rfl, W, rfl, hWf, by rw [hW2]; simp, hW4, ⟨hWk.1, hWk.2⟩⟩
      ·
        have er : (List.range (n - i)).reverse = (n - 1 - i) :: (List.range (n - (i + 1))).reverse := by rw [show n - i = (n - (i + 1)) + 1 by omega, List.range_succ, show n - (i + 1) = n - 1 - i by omega]; simp
        rw [er] at hI
        have hkn : (n - 1 - i) < n := by omega
        have hk6 : (n - 1 - i) < 6 := Nat.lt_of_lt_of_le hkn hc.2.2.1
        refine lk_iload_n dX9_crosses_17 rfl rfl ?_
        refine lk_if_eq (tgt := 26) dX9_crosses_18 (by decide) (fun hh2 => ?_) (fun hh2 => absurd hh2 (by decide))
        refine lk_iload_n dX9_crosses_26 rfl rfl ?_
        refine lk_iconst (v := 1) dX9_crosses_27 (by decide) ?_
        refine lk_isub dX9_crosses_28 ?_
        refine lk_iload dX9_crosses_29 rfl ?_
        refine lk_isub dX9_crosses_31 ?_
        rw [lk_pred2 (show i < n by omega) (by omega)]
        refine lk_istore (L' := [(0, lk_vr 1 0), (1, lk_vi 0), (2, lk_vi 0), (3, lk_vi (nI (n))), (4, lk_vi (nI (i))), (5, lk_vi (nI (n - 1 - i)))]) dX9_crosses_32 (by decide +kernel) rfl ?_
        refine lk_iload_n dX9_crosses_34 rfl rfl ?_
        refine lk_if_eq (tgt := 52) dX9_crosses_35 (by decide) (fun hh3 => ?_) (fun hh3 => absurd hh3 (by decide))
        refine lk_aload_n dX9_crosses_52 rfl rfl ?_
        refine lk_iload dX9_crosses_53 rfl ?_
        refine lk_iload_n dX9_crosses_55 rfl rfl ?_
        refine lk_iconst (v := 0) dX9_crosses_56 (by decide) ?_
        rcases hp : lk_pas V1 (n - 1 - i) false 0 with V2 | q
        ·
          refine lk_callV (o := 1) (as := [lk_vi (nI (n - 1 - i)), lk_vi 0, lk_vi 0]) (S := []) dX9_crosses_57 rfl vX9_goes rfl lX9_140 rfl rfl (Nat.le_of_ble_eq_true rfl) (tX9_goes_dn_ok l X (d + 1) W τ (k := (n - 1 - i)) (z := (0 : Int32)) (V := V1) (T := T) (n := n) (hV := hc) (hr := hrk) (hk := hkn) (W := V2) (h := hp)) ?_
          refine lk_k3 ?_
          refine lk_cast (pc' := 60) (S' := [lk_vi 1]) rfl rfl rfl ?_
          refine lk_if_ne (tgt := 71) dX9_crosses_60 (by decide) (fun hh4 => ?_) (fun hh4 => absurd hh4 (by decide))
          refine lk_aload_n dX9_crosses_71 rfl rfl ?_
          refine lk_dup dX9_crosses_72 rfl ?_
          refine lk_getIv (v := (W 1 22 (0))) (f := 22) dX9_crosses_73 rfl fX9_196 (by decide) (by decide) ((lk_rf (by decide)).trans rfl) ?_
          refine lk_iconst (v := 1) dX9_crosses_76 (by decide) ?_
          refine lk_iadd dX9_crosses_77 ?_
          refine lk_putI (f := 22) dX9_crosses_78 rfl fX9_196 (by decide) (by decide) ?_
          refine lk_sg (σ' := (lk_ms (lk_up (lk_up W 1 6 0 (V1 6 ((n - 1 - i) + 1) - V2 6 ((n - 1 - i) + 1))) 1 22 0 ((W 1 22 (0)) + 1)) V2 T)) (lk_wf (by decide)) ?_
          refine lk_iincN (a := i) (m := 1) (L' := [(0, lk_vr 1 0), (1, lk_vi 0), (2, lk_vi 0), (3, lk_vi (nI (n))), (4, lk_vi (nI (i + 1))), (5, lk_vi (nI (n - 1 - i)))]) dX9_crosses_81 rfl rfl (by decide +kernel) rfl ?_
          refine lk_goto (tgt := 11) dX9_crosses_84 (by decide) ?_
          refine lk_sub (L' := [(0, lk_vr 1 0), (1, lk_vi 0), (2, lk_vi 0), (3, lk_vi (nI (n))), (4, lk_vi (nI (i + 1)))]) [0, 1, 2, 3, 4] rfl ?_
          simp only [lk_trv, hp] at hI
          exact ih (i + 1) ((lk_up (lk_up W 1 6 0 (V1 6 ((n - 1 - i) + 1) - V2 6 ((n - 1 - i) + 1))) 1 22 0 ((W 1 22 (0)) + 1))) V2 (lk_tad U1 (V1 6 ((n - 1 - i) + 1) - V2 6 ((n - 1 - i) + 1))) (by omega) (lk_pas_cok hp hkn hc (by decide) (by decide)) (lk_pas_rok hrk hk6 hp) (lk_fx_up (lk_fx_up hWf (by decide)) (by decide)) (by
            show W 1 22 0 + 1 = _
            rw [hW2, Int32.add_assoc]; congr 1; exact nI_add _ 1) hW4 ⟨hWk.1, hWk.2⟩ (by rw [hI]; congr 1; omega) (by omega)
        ·
          refine lk_callV (o := 1) (as := [lk_vi (nI (n - 1 - i)), lk_vi 0, lk_vi 0]) (S := []) dX9_crosses_57 rfl vX9_goes rfl lX9_140 rfl rfl (Nat.le_of_ble_eq_true rfl) (tX9_goes_dn_no l X (d + 1) W τ (k := (n - 1 - i)) (z := (0 : Int32)) (V := V1) (T := T) (n := n) (hV := hc) (hr := hrk) (hk := hkn) (q := q) (h := hp)) ?_
          refine lk_k5 (fun s1 => ?_)
          refine lk_cast (pc' := 60) (S' := [lk_vi 0]) rfl rfl rfl ?_
          refine lk_sg (σ' := (lk_ms (lk_up (lk_bar W q) 1 6 0 s1) V1 T)) rfl ?_
          refine lk_if_ne (tgt := 71) dX9_crosses_60 (by decide) (fun hh5 => absurd hh5 (by decide)) (fun hh5 => ?_)
          refine lk_aload_n dX9_crosses_63 rfl rfl ?_
          refine lk_iload dX9_crosses_64 rfl ?_
          refine lk_putI (f := 24) dX9_crosses_66 rfl fX9_209 (by decide) (by decide) ?_
          refine lk_sg (σ' := (lk_ms (lk_up (lk_up (lk_bar W q) 1 6 0 s1) 1 24 0 (nI (n - 1 - i))) V1 T)) (lk_wf (by decide)) ?_
          refine lk_iconst (v := 0) dX9_crosses_69 (by decide) ?_
          refine lk_iret .boolean dX9_crosses_70 rfl rfl ?_
          rw [hQ]
          simp only [lk_trv, hp] at hI
          rw [hI]
          exact ⟨rfl, rfl, (lk_up (lk_up (lk_bar W q) 1 6 0 s1) 1 24 0 (nI (n - 1 - i))), rfl, (lk_fx_up (lk_fx_up (lk_fx_bar hWf (by decide) (by decide) (by decide)) (by decide)) (by decide)), by show W 1 22 0 = _; rw [hW2, Nat.zero_add], rfl, ⟨hWk.1, hWk.2⟩⟩
  exact LP11 (n + 1) 0 σ V T (by omega) hV hr (lk_fx_rf _ _) (by simp [nI]) rfl ⟨rfl, rfl⟩ (by simp [lk_lks]) (by omega)
