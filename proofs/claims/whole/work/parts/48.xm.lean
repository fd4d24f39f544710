theorem lk_shl_n {N : Nat} (h : N ≤ 12) : (1 : Int32) <<< (nI N &&& 31) = nI (2 ^ N) :=
  (by decide +kernel : ∀ N, N < 13 → (1 : Int32) <<< (nI N &&& 31) = nI (2 ^ N)) N (by omega)
theorem lk_clf_im {V W U : lk_O} {k : Nat} (h : lk_near (lk_im V W) U k) : lk_clf V U k = lk_im V W := by
  funext f i
  by_cases h6 : f = 6 ∧ (i = k ∨ i = k + 1)
  · simp only [lk_clf, lk_ou, lk_im]
    obtain ⟨rfl, rfl | rfl⟩ := h6 <;> simp
  · by_cases h4 : f = 4 ∧ i = k
    · simp only [lk_clf, lk_ou, lk_im]
      obtain ⟨rfl, rfl⟩ := h4; simp
    · by_cases h5 : f = 5 ∧ i = k
      · simp only [lk_clf, lk_ou, lk_im]
        obtain ⟨rfl, rfl⟩ := h5; simp
      · rw [← h f i h6 h4 h5]
        simp only [lk_clf, lk_ou]
        grind
/-- an order is weighed -/
def lk_wg (p : Nat × Int32 × Nat) (m : Nat) (o : Option Int32) : Nat × Int32 × Nat := match o with
  | none => p
  | some z => (p.1 + 1, if p.1 = 0 ∨ z < p.2.1 then z else p.2.1, if p.1 = 0 ∨ z < p.2.1 then m else p.2.2)
/-- all masks below m: how many are good, the least that they spend, the first that does -/
def lk_wvo (Z : Nat → Int32) (qb qa : Nat → Nat) (k N A : Nat) (V : lk_O) : Nat → Nat × Int32 × Nat
  | 0 => (0, 0, 0)
  | m + 1 => if lk_onz N m = A then lk_wg (lk_wvo Z qb qa k N A V m) m (lk_spo Z qb qa k m N 0 0 0 V) else lk_wvo Z qb qa k N A V m
theorem lk_wg_le (p : Nat × Int32 × Nat) (m : Nat) (o : Option Int32) : (lk_wg p m o).1 ≤ p.1 + 1 := by
  unfold lk_wg
  split
  · omega
  · exact Nat.le_refl _
theorem lk_wvo_le (Z : Nat → Int32) (qb qa : Nat → Nat) (k N A : Nat) (V : lk_O) : ∀ m, (lk_wvo Z qb qa k N A V m).1 ≤ m
  | 0 => Nat.le_refl _
  | m + 1 => by
    have := lk_wvo_le Z qb qa k N A V m
    unfold lk_wvo
    split
    · have := lk_wg_le (lk_wvo Z qb qa k N A V m) m (lk_spo Z qb qa k m N 0 0 0 V); omega
    · omega
theorem lk_spo_c {Z : Nat → Int32} {qb qa : Nat → Nat} {k m : Nat} (hk : k < 6) : ∀ (r i j : Nat) (so : Int32) {V W : lk_O}, lk_eqr V W → lk_spo Z qb qa k m r i j so V = lk_spo Z qb qa k m r i j so W
  | 0, _, _, _, _, _, _ => rfl
  | r + 1, i, j, so, V, W, h => by
    have h6 := h.2.2.2 6 (k + 1) (by decide) (by decide) (by omega)
    unfold lk_spo
    split
    · have hp := lk_pas_c (up := true) (z := Z (qb i)) h hk
      revert hp
      cases lk_pas V k true (Z (qb i)) <;> cases lk_pas W k true (Z (qb i)) <;> intro hp
      · show lk_spo _ _ _ _ _ _ _ _ _ _ = lk_spo _ _ _ _ _ _ _ _ _ _
        rw [h6, hp.2.2.2 6 (k + 1) (by decide) (by decide) (by omega)]
        exact lk_spo_c hk r _ _ _ hp
      · exact hp.elim
      · exact hp.elim
      · rfl
    · have hp := lk_pas_c (up := false) (z := Z (qa j)) h hk
      revert hp
      cases lk_pas V k false (Z (qa j)) <;> cases lk_pas W k false (Z (qa j)) <;> intro hp
      · show lk_spo _ _ _ _ _ _ _ _ _ _ = lk_spo _ _ _ _ _ _ _ _ _ _
        rw [h6, hp.2.2.2 6 (k + 1) (by decide) (by decide) (by omega)]
        exact lk_spo_c hk r _ _ _ hp
      · exact hp.elim
      · exact hp.elim
      · rfl
theorem lk_wvo_c {Z : Nat → Int32} {qb qa : Nat → Nat} {k N A : Nat} {V W : lk_O} (hk : k < 6) (h : lk_eqr V W) : ∀ m, lk_wvo Z qb qa k N A V m = lk_wvo Z qb qa k N A W m
  | 0 => rfl
  | m + 1 => by
    unfold lk_wvo
    rw [lk_wvo_c hk h m, lk_spo_c hk N 0 0 0 h]
theorem lk_spo_bd {Z : Nat → Int32} {qb qa : Nat → Nat} {k m cb ca A B N : Nat} (hzb : ∀ i, i < cb → 0 ≤ (Z (qb i)).toInt ∧ (Z (qb i)).toInt ≤ 9) (hza : ∀ i, i < ca → 0 ≤ (Z (qa i)).toInt ∧ (Z (qa i)).toInt ≤ 9) (hB : B ≤ cb) (hA : A ≤ ca) (hN : N = A + B) (hN12 : N ≤ 12) :
    ∀ (r i j : Nat) (so : Int32) (V : lk_O) (s : Int32), r + i + j = N → lk_onz r m + j = A → lk_lok V k → -9 * ((N - r : Nat) : Int) ≤ so.toInt → so.toInt ≤ 108 * ((N - r : Nat) : Int) → lk_spo Z qb qa k m r i j so V = some s → -9 * (N : Int) ≤ s.toInt
  | 0, i, j, so, V, s, h1, h2, hl, h3, h4, h => by
    have : so = s := by simpa [lk_spo] using h
    subst this
    exact h3
  | r + 1, i, j, so, V, s, h1, h2, hl, h3, h4, h => by
    have hb : m / 2 ^ r % 2 < 2 := Nat.mod_lt _ (by decide)
    have ho : lk_onz (r + 1) m = lk_onz r m + m / 2 ^ r % 2 := rfl
    have hle := lk_onz_le r m
    unfold lk_spo at h
    split at h
    · have hz := hzb i (by omega)
      cases hp : lk_pas V k true (Z (qb i)) with
      | inr q => rw [hp] at h; cases h
      | inl V' =>
        rw [hp] at h
        have a := lk_pas_ok hp hl hz.1 hz.2
        have e : (so + (V 6 (k + 1) - V' 6 (k + 1))).toInt = so.toInt + (V 6 (k + 1) - V' 6 (k + 1)).toInt := by rw [Int32.toInt_add, Int.bmod_eq_of_le] <;> omega
        exact lk_spo_bd hzb hza hB hA hN hN12 r (i + 1) j _ V' s (by omega) (by omega) a.2.1 (by omega) (by omega) h
    · have hz := hza j (by omega)
      cases hp : lk_pas V k false (Z (qa j)) with
      | inr q => rw [hp] at h; cases h
      | inl V' =>
        rw [hp] at h
        have a := lk_pas_ok hp hl hz.1 hz.2
        have e : (so + (V 6 (k + 1) - V' 6 (k + 1))).toInt = so.toInt + (V 6 (k + 1) - V' 6 (k + 1)).toInt := by rw [Int32.toInt_add, Int.bmod_eq_of_le] <;> omega
        exact lk_spo_bd hzb hza hB hA hN hN12 r i (j + 1) _ V' s (by omega) (by omega) a.2.1 (by omega) (by omega) h
theorem lk_sp120 {s : Int32} {N : Nat} (h : -9 * (N : Int) ≤ s.toInt) (hN : N ≤ 12) : ¬ s = -2000002 := by
  intro e; subst e
  have : (-2000002 : Int32).toInt = -2000002 := rfl
  omega
theorem lk_wfr {σ W S U : lk_N} {V : lk_O} (h : lk_fr σ W) (g : lk_frc 8 (lk_so W 8 V) S) (q : ∀ o, lk_scr o = false → U o = S o) : lk_fr σ U := by
  intro o ho
  have h8 : ¬ o = 8 := by rintro rfl; cases ho
  have h9 : ¬ o = 8 + 1 := by rintro rfl; cases ho
  have h10 : ¬ o = 8 + 2 := by rintro rfl; cases ho
  rw [q o ho, g o h8 h9 h10, lk_so_ne h8]
  exact h o ho
set_option maxHeartbeats 1000000 in
set_option maxRecDepth 100000 in
theorem tX8_weaveOrders (l : Launch) (X : lk_G) (d : Nat) (σ : lk_N) (τ : lk_T) (n : Nat) (hV : lk_cok (σ 2) n) (k : Nat) (hk : k < n) (nf : Nat) (hn : σ 11 5 0 = nI nf) (hn12 : nf ≤ 12) (h01 : ∀ k, k < 6 → σ 2 5 k = 0 ∨ σ 2 5 k = 1) (hz : ∀ b, b < nf → 0 ≤ (σ 11 1 b).toInt ∧ (σ 11 1 b).toInt ≤ 9) (A B N : Nat) (hA : A = min (lk_qa (σ 11) nf k).1 6) (hB : B = min (lk_qb (σ 11) nf k).1 6) (hN : N = A + B) : lk_Mt l X mX8_weaveOrders (d + 5) [lk_vr 0 0, lk_vi (nI (k))] σ τ (fun rr σ1 τ1 => rr = none ∧ τ1 = τ ∧ ∃ W : lk_N, σ1 = W ∧ (lk_fr σ W ∧ lk_ln (W 15) (lk_qb (σ 11) nf k) ∧ lk_ln (W 16) (lk_qa (σ 11) nf k) ∧ W 18 = lk_ww N A (lk_wvo (σ 11 1) (lk_qb (σ 11) nf k).2 (lk_qa (σ 11) nf k).2 k N A (lk_im (σ 2) (σ 8)) (2 ^ N)).1 (lk_wvo (σ 11 1) (lk_qb (σ 11) nf k).2 (lk_qa (σ 11) nf k).2 k N A (lk_im (σ 2) (σ 8)) (2 ^ N)).2.1 (lk_wvo (σ 11 1) (lk_qb (σ 11) nf k).2 (lk_qa (σ 11) nf k).2 k N A (lk_im (σ 2) (σ 8)) (2 ^ N)).2.2)) := by
  refine lk_met (L := [(0, lk_vr 0 0), (1, lk_vi (nI (k)))]) (by decide +kernel) (Nat.le_of_ble_eq_true rfl) rfl ?_
  obtain ⟨Q, hQ⟩ : ∃ Q : lk_Q, Q = fun rr σ1 τ1 => rr = none ∧ τ1 = τ ∧ ∃ W : lk_N, σ1 = W ∧ (lk_fr σ W ∧ lk_ln (W 15) (lk_qb (σ 11) nf k) ∧ lk_ln (W 16) (lk_qa (σ 11) nf k) ∧ W 18 = lk_ww N A (lk_wvo (σ 11 1) (lk_qb (σ 11) nf k).2 (lk_qa (σ 11) nf k).2 k N A (lk_im (σ 2) (σ 8)) (2 ^ N)).1 (lk_wvo (σ 11 1) (lk_qb (σ 11) nf k).2 (lk_qa (σ 11) nf k).2 k N A (lk_im (σ 2) (σ 8)) (2 ^ N)).2.1 (lk_wvo (σ 11 1) (lk_qb (σ 11) nf k).2 (lk_qa (σ 11) nf k).2 k N A (lk_im (σ 2) (σ 8)) (2 ^ N)).2.2) := ⟨_, rfl⟩
  rw [← hQ]
  have hk6 : k < 6 := Nat.lt_of_lt_of_le hk hV.2.2.1
  have hN12 : N ≤ 12 := by omega
  obtain ⟨P, hP⟩ : ∃ P, P = 2 ^ N := ⟨_, rfl⟩
  have hP12 : P ≤ 4096 := by rw [hP]; exact Nat.le_trans (Nat.pow_le_pow_right (n := 2) (by decide) hN12) (show 2 ^ 12 ≤ 4096 by decide)
  rw [← hP] at hQ
  refine lk_aload_n dX8_weaveOrders_0 rfl rfl ?_
  refine lk_iload_n dX8_weaveOrders_1 rfl rfl ?_
  refine lk_callV (o := 0) (as := [lk_vi (nI (k))]) (S := []) dX8_weaveOrders_2 rfl vX8_lineUp rfl lX8_224 rfl rfl (Nat.le_of_ble_eq_true rfl) (tX8_lineUp l X d σ τ (k := (k)) (nf := nf) (hn := hn) (hn12 := hn12)) ?_
  refine lk_k4 (fun W hW => ?_)
  refine lk_cast (pc' := 5) (S' := []) rfl rfl rfl ?_
  refine lk_aload_n dX8_weaveOrders_5 rfl rfl ?_
  refine lk_getO (f := 13) (o' := 18) dX8_weaveOrders_6 rfl fX8_64 (by decide) (by decide) rfl ?_
  refine lk_aload_n dX8_weaveOrders_9 rfl rfl ?_
  refine lk_getO (f := 10) (o' := 15) dX8_weaveOrders_10 rfl fX8_47 (by decide) (by decide) rfl ?_
  refine lk_aload_n dX8_weaveOrders_13 rfl rfl ?_
  refine lk_getO (f := 11) (o' := 16) dX8_weaveOrders_14 rfl fX8_51 (by decide) (by decide) rfl ?_
  refine lk_callV (o := 18) (as := [lk_vr 15 0, lk_vr 16 0]) (S := []) dX8_weaveOrders_17 rfl vX7_begin rfl lX8_241 rfl rfl (Nat.le_of_ble_eq_true rfl) (tX7_begin l X (d + 3) (lk_so (lk_so σ 15 W.1) 16 W.2) τ  (nb := (lk_qb (σ 11) nf k).1) (na := (lk_qa (σ 11) nf k).1) (hnb := by rw [lk_so_ne (by decide), lk_so_eq]; exact hW.1.1) (hna := by rw [lk_so_eq]; exact hW.2.1) (hb22 := Nat.le_trans (Nat.le_trans (lk_gat_le (σ 11) (nI k) 1 nf) hn12) (by decide)) (ha22 := Nat.le_trans (Nat.le_trans (lk_gat_le (σ 11) (nI (k + 1)) 0 nf) hn12) (by decide))) ?_
  refine lk_k3 ?_
  refine lk_cast (pc' := 20) (S' := []) rfl rfl rfl ?_
  refine lk_aload_n dX8_weaveOrders_20 rfl rfl ?_
  refine lk_getO (f := 8) (o' := 8) dX8_weaveOrders_21 rfl fX8_38 (by decide) (by decide) rfl ?_
  refine lk_aload_n dX8_weaveOrders_24 rfl rfl ?_
  refine lk_getO (f := 0) (o' := 2) dX8_weaveOrders_25 rfl fX8_14 (by decide) (by decide) rfl ?_
  refine lk_callV (o := 8) (as := [lk_vr 2 0]) (S := []) dX8_weaveOrders_28 rfl vX0_copyFrom rfl lX8_210 rfl rfl (Nat.le_of_ble_eq_true rfl) (tX0_copyFrom l X (d + 1) (lk_so (lk_so (lk_so σ 15 W.1) 16 W.2) 18 (lk_ww (min (lk_qa (σ 11) nf k).1 6 + min (lk_qb (σ 11) nf k).1 6) (min (lk_qa (σ 11) nf k).1 6) 0 0 0)) τ (c := 8) (o := 2) (hc := rfl) (ho := rfl) (hco := by decide) (h01 := by rw [lk_so_ne (by decide), lk_so_ne (by decide), lk_so_ne (by decide)]; exact h01)) ?_
  refine lk_k3 ?_
  refine lk_cast (pc' := 31) (S' := []) rfl rfl rfl ?_
  refine lk_iconst (v := 1) dX8_weaveOrders_31 (by decide) ?_
  refine lk_aload_n dX8_weaveOrders_32 rfl rfl ?_
  refine lk_getO (f := 13) (o' := 18) dX8_weaveOrders_33 rfl fX8_64 (by decide) (by decide) rfl ?_
  refine lk_getIv (v := (nI (N))) (f := 0) dX8_weaveOrders_36 rfl fX8_245 (by decide) (by decide) (by rw [hN, hA, hB]; simp [lk_so, lk_ww]) ?_
  refine lk_ishl dX8_weaveOrders_39 ?_
  refine lk_eqtop (y := (nI (P))) (by rw [hP]; exact lk_shl_n hN12) ?_
  refine lk_istore_n (L' := [(0, lk_vr 0 0), (1, lk_vi (nI (k))), (2, lk_vi (nI (P)))]) dX8_weaveOrders_40 rfl (by decide +kernel) rfl ?_
  refine lk_iconst (v := 0) dX8_weaveOrders_41 (by decide) ?_
  refine lk_istore_n (L' := [(0, lk_vr 0 0), (1, lk_vi (nI (k))), (2, lk_vi (nI (P))), (3, lk_vi 0)]) dX8_weaveOrders_42 rfl (by decide +kernel) rfl ?_
  have LP43 : ∀ (fu : Nat) (m : Nat) (W : lk_N), m ≤ P → lk_fr σ W → lk_ln (W 15) (lk_qb (σ 11) nf k) → lk_ln (W 16) (lk_qa (σ 11) nf k) → W 18 = lk_ww N A (lk_wvo (σ 11 1) (lk_qb (σ 11) nf k).2 (lk_qa (σ 11) nf k).2 k N A (lk_im (σ 2) (σ 8)) m).1 (lk_wvo (σ 11 1) (lk_qb (σ 11) nf k).2 (lk_qa (σ 11) nf k).2 k N A (lk_im (σ 2) (σ 8)) m).2.1 (lk_wvo (σ 11 1) (lk_qb (σ 11) nf k).2 (lk_qa (σ 11) nf k).2 k N A (lk_im (σ 2) (σ 8)) m).2.2 → lk_near (lk_im (σ 2) (σ 8)) (W 8) k → lk_cok (W 8) n → P - m < fu → lk_W l X mX8_weaveOrders (d + 5) 43 [(0, lk_vr 0 0), (1, lk_vi (nI (k))), (2, lk_vi (nI (P))), (3, lk_vi (nI (m)))] [] W τ Q := by
    intro fu
    induction fu with
    | zero => intro m W hm hfr h15 h16 h18 hnr hW8 hfu; exact absurd hfu (by omega)
    | succ fu ih =>
      intro m W hm hfr h15 h16 h18 hnr hW8 hfu
      refine lk_iload_n dX8_weaveOrders_43 rfl rfl ?_
      refine lk_iload_n dX8_weaveOrders_44 rfl rfl ?_
      refine lk_icmp_geN (a := m) (b := P) (tgt := 91) dX8_weaveOrders_45 (by decide) (by omega) (by omega) (fun hh1 => ?_) (fun hh1 => ?_)
      ·
        refine lk_vret dX8_weaveOrders_91 rfl ?_
        rw [hQ]
        have hmP : m = P := by omega
        subst hmP
        exact ⟨rfl, rfl, W, rfl, hfr, h15, h16, h18⟩
      ·
        have w2 : W 2 = σ 2 := hfr 2 rfl
        have w11 : W 11 = σ 11 := hfr 11 rfl
        refine lk_aload_n dX8_weaveOrders_48 rfl rfl ?_
        refine lk_getO (f := 13) (o' := 18) dX8_weaveOrders_49 rfl fX8_64 (by decide) (by decide) rfl ?_
        refine lk_iload_n dX8_weaveOrders_52 rfl rfl ?_
        refine lk_callV (o := 18) (as := [lk_vi (nI (m))]) (S := []) dX8_weaveOrders_53 rfl vX7_isOrder rfl lX8_248 rfl rfl (Nat.le_of_ble_eq_true rfl) (tX7_isOrder l X (d + 3) W τ (m := (m)) (N := N) (a := A) (hW := h18) (hN := hN12) (haN := by omega) (hm := by rw [← hP]; omega)) ?_
        refine lk_k3 ?_
        refine lk_cast (pc' := 56) (S' := [lk_vi (if lk_onz N (m) = A then 1 else 0)]) rfl rfl rfl ?_
        refine lk_if_eqB (tgt := 85) dX8_weaveOrders_56 (by decide) (fun hh2 => ?_) (fun hh2 => ?_)
        ·
          refine lk_iincN (a := m) (m := 1) (L' := [(0, lk_vr 0 0), (1, lk_vi (nI (k))), (2, lk_vi (nI (P))), (3, lk_vi (nI (m + 1)))]) dX8_weaveOrders_85 rfl rfl (by decide +kernel) rfl ?_
          refine lk_goto (tgt := 43) dX8_weaveOrders_88 (by decide) ?_
          exact ih (m + 1) W (by omega) hfr h15 h16 (by rw [lk_wvo, if_neg (by assumption)]; exact h18) hnr hW8 (by omega)
        ·
          refine lk_aload_n dX8_weaveOrders_59 rfl rfl ?_
          refine lk_getO (f := 8) (o' := 8) dX8_weaveOrders_60 rfl fX8_38 (by decide) (by decide) rfl ?_
          refine lk_aload_n dX8_weaveOrders_63 rfl rfl ?_
          refine lk_getO (f := 0) (o' := 2) dX8_weaveOrders_64 rfl fX8_14 (by decide) (by decide) rfl ?_
          refine lk_iload_n dX8_weaveOrders_67 rfl rfl ?_
          refine lk_callV (o := 8) (as := [lk_vr 2 0, lk_vi (nI (k))]) (S := []) dX8_weaveOrders_68 rfl vX0_copyLockFrom rfl lX8_251 rfl rfl (Nat.le_of_ble_eq_true rfl) (tX0_copyLockFrom l X (d + 3) W τ (c := 8) (o := 2) (k := (k)) (hc := rfl) (ho := rfl) (hco := by decide) (n := n) (hn := hW8.1) (hk := hk) (hn6 := hV.2.2.1) (h01 := by rw [w2]; exact h01)) ?_
          refine lk_k3 ?_
          refine lk_cast (pc' := 71) (S' := []) rfl rfl rfl ?_
          refine lk_sg (σ' := lk_so W 8 (lk_im (σ 2) (σ 8))) (by rw [w2, lk_clf_im hnr]) ?_
          refine lk_aload_n dX8_weaveOrders_71 rfl rfl ?_
          refine lk_getO (f := 13) (o' := 18) dX8_weaveOrders_72 rfl fX8_64 (by decide) (by decide) rfl ?_
          refine lk_iload_n dX8_weaveOrders_75 rfl rfl ?_
          refine lk_aload_n dX8_weaveOrders_76 rfl rfl ?_
          refine lk_iload_n dX8_weaveOrders_77 rfl rfl ?_
          refine lk_iload_n dX8_weaveOrders_78 rfl rfl ?_
          refine lk_callV (o := 0) (as := [lk_vi (nI (k)), lk_vi (nI (m))]) (S := [lk_vi (nI (m)), lk_vr 18 0]) dX8_weaveOrders_79 rfl vX8_spentByOrder rfl lX8_255 rfl rfl (Nat.le_of_ble_eq_true rfl) (tX8_spentByOrder l X (d + 1) (lk_so W 8 (lk_im (σ 2) (σ 8))) τ (k := (k)) (m := (m)) (n := n) (hV := by rw [lk_so_eq]; exact lk_im_cok hV) (hk := hk) (nf := nf) (hn := by rw [lk_so_ne (by decide), w11]; exact hn) (hn12 := hn12) (hz := by rw [lk_so_ne (by decide), w11]; exact hz) (cb := (lk_qb (σ 11) nf k).1) (ca := (lk_qa (σ 11) nf k).1) (A := A) (B := B) (qb := (lk_qb (σ 11) nf k).2) (qa := (lk_qa (σ 11) nf k).2) (hgb := by rw [lk_so_ne (by decide)]; exact h15.1) (hha := by rw [lk_so_ne (by decide)]; exact h16.1) (hqb := by rw [lk_so_ne (by decide)]; exact h15.2) (hqa := by rw [lk_so_ne (by decide)]; exact h16.2) (hqbn := fun i h => lk_gat_lt (σ 11) (nI k) 1 nf i h) (hqan := fun i h => lk_gat_lt (σ 11) (nI (k + 1)) 0 nf i h) (hcb := Nat.le_trans (Nat.le_trans (lk_gat_le (σ 11) (nI k) 1 nf) hn12) (by decide)) (hca := Nat.le_trans (Nat.le_trans (lk_gat_le (σ 11) (nI (k + 1)) 0 nf) hn12) (by decide)) (hB := by omega) (hA := by omega) (N := N) (hw := by rw [lk_so_ne (by decide)]; exact h18) (hN := hN) (hN12 := hN12) (hm := by rw [← hP]; omega) (hon := by assumption)) ?_
          refine lk_k4 (F := fun W => W) (fun W2 hW2 => ?_)
          rw [show (lk_so W 8 (lk_im (σ 2) (σ 8))) 11 = σ 11 by rw [lk_so_ne (by decide)]; exact w11, lk_so_eq]
          rw [lk_so_eq] at hW2
          refine lk_cast (pc' := 82) (S' := [lk_vi (lk_so0 (lk_spo (σ 11 1) (lk_qb (σ 11) nf k).2 (lk_qa (σ 11) nf k).2 k m N 0 0 0 (lk_im (σ 2) (σ 8)))), lk_vi (nI (m)), lk_vr 18 0]) rfl rfl rfl ?_
          have q18 : W2 18 = W 18 := (hW2.1 18 (by decide) (by decide) (by decide)).trans (lk_so_ne (by decide))
          rcases (show ∃ o, (lk_spo (σ 11 1) (lk_qb (σ 11) nf k).2 (lk_qa (σ 11) nf k).2 k m N 0 0 0 (lk_im (σ 2) (σ 8))) = o from ⟨_, rfl⟩) with ⟨_ | z, hsp⟩
          ·
            refine lk_callV (o := 18) (as := [lk_vi (nI (m)), lk_vi (lk_so0 (lk_spo (σ 11 1) (lk_qb (σ 11) nf k).2 (lk_qa (σ 11) nf k).2 k m N 0 0 0 (lk_im (σ 2) (σ 8))))]) (S := []) dX8_weaveOrders_82 rfl vX7_weigh rfl lX8_258 rfl rfl (Nat.le_of_ble_eq_true rfl) (tX7_weigh_no l X (d + 4) W2 τ (m := (m)) (z := (lk_so0 (lk_spo (σ 11 1) (lk_qb (σ 11) nf k).2 (lk_qa (σ 11) nf k).2 k m N 0 0 0 (lk_im (σ 2) (σ 8))))) (hW := q18.trans h18) (hN := hN12) (h := by first | (rw [hsp]; rfl) | rfl)) ?_
            refine lk_k3 ?_
            refine lk_cast (pc' := 85) (S' := []) rfl rfl rfl ?_
            refine lk_iincN (a := m) (m := 1) (L' := [(0, lk_vr 0 0), (1, lk_vi (nI (k))), (2, lk_vi (nI (P))), (3, lk_vi (nI (m + 1)))]) dX8_weaveOrders_85 rfl rfl (by decide +kernel) rfl ?_
            refine lk_goto (tgt := 43) dX8_weaveOrders_88 (by decide) ?_
            exact ih (m + 1) W2 (by omega) (lk_wfr hfr hW2.1 (fun o ho => rfl)) (by rw [hW2.1 15 (by decide) (by decide) (by decide), lk_so_ne (by decide)]; exact h15) (by rw [hW2.1 16 (by decide) (by decide) (by decide), lk_so_ne (by decide)]; exact h16) (by rw [lk_wvo, if_pos (show lk_onz N m = A by assumption), hsp, q18]; exact h18) (by rw [show W2 8 = W2 8 from rfl]; exact hW2.2.1) (by rw [show W2 8 = W2 8 from rfl]; exact hW2.2.2) (by omega)
          ·
            refine lk_callV (o := 18) (as := [lk_vi (nI (m)), lk_vi (lk_so0 (lk_spo (σ 11 1) (lk_qb (σ 11) nf k).2 (lk_qa (σ 11) nf k).2 k m N 0 0 0 (lk_im (σ 2) (σ 8))))]) (S := []) dX8_weaveOrders_82 rfl vX7_weigh rfl lX8_258 rfl rfl (Nat.le_of_ble_eq_true rfl) (tX7_weigh_ok l X (d + 4) W2 τ (m := (m)) (z := (lk_so0 (lk_spo (σ 11 1) (lk_qb (σ 11) nf k).2 (lk_qa (σ 11) nf k).2 k m N 0 0 0 (lk_im (σ 2) (σ 8))))) (hW := q18.trans h18) (hN := hN12) (h := by rw [hsp]; exact lk_sp120 (lk_spo_bd (Z := σ 11 1) (cb := (lk_qb (σ 11) nf k).1) (ca := (lk_qa (σ 11) nf k).1) (A := A) (B := B) (fun i h => hz _ (lk_gat_lt (σ 11) (nI k) 1 nf i h)) (fun i h => hz _ (lk_gat_lt (σ 11) (nI (k + 1)) 0 nf i h)) (by omega) (by omega) hN hN12 N 0 0 0 _ z (by omega) (by first | assumption | omega) ((lk_im_cok hV).2.2.2 k hk6) (by simp) (by simp) hsp) hN12) (hg := Nat.le_trans (lk_wvo_le _ _ _ _ _ _ _ _) (by omega))) ?_
            refine lk_k3 ?_
            refine lk_cast (pc' := 85) (S' := []) rfl rfl rfl ?_
            refine lk_iincN (a := m) (m := 1) (L' := [(0, lk_vr 0 0), (1, lk_vi (nI (k))), (2, lk_vi (nI (P))), (3, lk_vi (nI (m + 1)))]) dX8_weaveOrders_85 rfl rfl (by decide +kernel) rfl ?_
            refine lk_goto (tgt := 43) dX8_weaveOrders_88 (by decide) ?_
            exact ih (m + 1) (lk_so W2 18 (lk_ww N A ((lk_wvo (σ 11 1) (lk_qb (σ 11) nf k).2 (lk_qa (σ 11) nf k).2 k N A (lk_im (σ 2) (σ 8)) m).1 + 1) (if (lk_wvo (σ 11 1) (lk_qb (σ 11) nf k).2 (lk_qa (σ 11) nf k).2 k N A (lk_im (σ 2) (σ 8)) m).1 = 0 ∨ (lk_so0 (lk_spo (σ 11 1) (lk_qb (σ 11) nf k).2 (lk_qa (σ 11) nf k).2 k m N 0 0 0 (lk_im (σ 2) (σ 8)))) < (lk_wvo (σ 11 1) (lk_qb (σ 11) nf k).2 (lk_qa (σ 11) nf k).2 k N A (lk_im (σ 2) (σ 8)) m).2.1 then (lk_so0 (lk_spo (σ 11 1) (lk_qb (σ 11) nf k).2 (lk_qa (σ 11) nf k).2 k m N 0 0 0 (lk_im (σ 2) (σ 8)))) else (lk_wvo (σ 11 1) (lk_qb (σ 11) nf k).2 (lk_qa (σ 11) nf k).2 k N A (lk_im (σ 2) (σ 8)) m).2.1) (if (lk_wvo (σ 11 1) (lk_qb (σ 11) nf k).2 (lk_qa (σ 11) nf k).2 k N A (lk_im (σ 2) (σ 8)) m).1 = 0 ∨ (lk_so0 (lk_spo (σ 11 1) (lk_qb (σ 11) nf k).2 (lk_qa (σ 11) nf k).2 k m N 0 0 0 (lk_im (σ 2) (σ 8)))) < (lk_wvo (σ 11 1) (lk_qb (σ 11) nf k).2 (lk_qa (σ 11) nf k).2 k N A (lk_im (σ 2) (σ 8)) m).2.1 then (m) else (lk_wvo (σ 11 1) (lk_qb (σ 11) nf k).2 (lk_qa (σ 11) nf k).2 k N A (lk_im (σ 2) (σ 8)) m).2.2))) (by omega) (lk_wfr hfr hW2.1 (fun o ho => lk_so_ne (by rintro rfl; cases ho))) (by rw [lk_so_ne (by decide), hW2.1 15 (by decide) (by decide) (by decide), lk_so_ne (by decide)]; exact h15) (by rw [lk_so_ne (by decide), hW2.1 16 (by decide) (by decide) (by decide), lk_so_ne (by decide)]; exact h16) (by rw [lk_so_eq, lk_wvo, if_pos (show lk_onz N m = A by assumption), hsp]; rfl) (by rw [lk_so_ne (by decide), show W2 8 = W2 8 from rfl]; exact hW2.2.1) (by rw [lk_so_ne (by decide), show W2 8 = W2 8 from rfl]; exact hW2.2.2) (by omega)
  exact LP43 (P + 1) 0 _ (Nat.zero_le _) (lk_fr_so (lk_fr_so (lk_fr_so (lk_fr_so (lk_fr_so (lk_fr_rf σ) rfl _) rfl _) rfl _) rfl _) rfl _) (by simp only [lk_so]; simpa using hW.1) (by simp only [lk_so]; simpa using hW.2) (by rw [lk_so_ne (by decide), lk_so_ne (by decide), lk_so_eq, hN, hA, hB]; rfl) (by simp [lk_so]; exact lk_near_rf _ _) (by simp [lk_so]; exact lk_im_cok hV) (by omega)
