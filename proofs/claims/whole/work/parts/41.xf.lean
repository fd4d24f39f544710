/-- objects in which nothing is kept from call to call -/
def lk_scr (o : Nat) : Bool := o == 8 || o == 9 || o == 10 || o == 12 || o == 15 || o == 16 || o == 17 || o == 18
def lk_fr (σ W : lk_N) : Prop := ∀ o, lk_scr o = false → W o = σ o
theorem lk_fr_rf (σ : lk_N) : lk_fr σ σ := fun _ _ => rfl
theorem lk_fr_tr {σ W U : lk_N} (h : lk_fr σ W) (g : lk_fr W U) : lk_fr σ U := fun o ho => (g o ho).trans (h o ho)
theorem lk_fr_so {σ W : lk_N} (h : lk_fr σ W) {o : Nat} (ho : lk_scr o = true) (V : lk_O) : lk_fr σ (lk_so W o V) := by
  intro a ha
  rw [lk_so_ne (by intro e; rw [e, ho] at ha; cases ha)]
  exact h a ha
abbrev lk_ln (W : lk_O) (g : Nat × (Nat → Nat)) : Prop := W 1 0 = nI g.1 ∧ ∀ i, i < g.1 → W 0 i = nI (g.2 i)
/-- the two queues of a lock -/
abbrev lk_qb (B : lk_O) (nf k : Nat) : Nat × (Nat → Nat) := lk_gat B (nI k) 1 nf
abbrev lk_qa (B : lk_O) (nf k : Nat) : Nat × (Nat → Nat) := lk_gat B (nI (k + 1)) 0 nf
def lk_mvs (B : lk_O) (q : Nat → Nat) : Nat → lk_O
  | 0 => B
  | i + 1 => lk_ou (lk_mvs B q i) 4 (q i) (lk_mvs B q i 4 (q i) + if lk_mvs B q i 3 (q i) = 0 then 0 - 1 else 1)
theorem lk_mvs_3 (B : lk_O) (q : Nat → Nat) : ∀ (m f : Nat), f ≠ 4 → lk_mvs B q m f = B f
  | 0, _, _ => rfl
  | m + 1, f, hf => by
    have := lk_mvs_3 B q m f hf
    funext i
    simp only [lk_mvs, lk_ou]
    rw [if_neg (fun z => hf z.1), this]
theorem lk_rr_c {R Z : Nat → Int32} {qb qa : Nat → Nat} {nb na k ru : Nat} (hk : k < 6) : ∀ (m i j : Nat) (sp : Int32) {V W T U : lk_O}, lk_eqr V W → lk_eqt T U →
    (lk_rr R Z qb qa nb na k ru m i j sp V T).1 = (lk_rr R Z qb qa nb na k ru m i j sp W U).1 ∧ (lk_rr R Z qb qa nb na k ru m i j sp V T).2.1 = (lk_rr R Z qb qa nb na k ru m i j sp W U).2.1 ∧ lk_eqr (lk_rr R Z qb qa nb na k ru m i j sp V T).2.2.1 (lk_rr R Z qb qa nb na k ru m i j sp W U).2.2.1 ∧ lk_eqt (lk_rr R Z qb qa nb na k ru m i j sp V T).2.2.2 (lk_rr R Z qb qa nb na k ru m i j sp W U).2.2.2
  | 0, i, j, sp, V, W, T, U, h, g => ⟨rfl, rfl, h, g⟩
  | m + 1, i, j, sp, V, W, T, U, h, g => by
    have e5 := h.2.2.1 5 k (by decide) (by decide) hk
    have h6 := h.2.2.2 6 (k + 1) (by decide) (by decide) (by omega)
    unfold lk_rr
    rw [e5]
    cases lk_frb R qb qa nb na i j (W 5 k) ru with
    | true =>
      have hp := lk_pas_c (up := true) (z := Z (qb i)) h hk
      rcases hv : lk_pas V k true (Z (qb i)) with V' | a <;> rcases hw : lk_pas W k true (Z (qb i)) with W' | b <;> rw [hv, hw] at hp
      · have h6' := hp.2.2.2 6 (k + 1) (by decide) (by decide) (by omega)
        simp only [h6, h6']
        exact lk_rr_c hk m (i + 1) j _ hp (lk_tad_c g)
      · exact hp.elim
      · exact hp.elim
      · have : a = b := hp
        subst this
        exact ⟨rfl, rfl, h, g⟩
    | false =>
      have hp := lk_pas_c (up := false) (z := Z (qa j)) h hk
      rcases hv : lk_pas V k false (Z (qa j)) with V' | a <;> rcases hw : lk_pas W k false (Z (qa j)) with W' | b <;> rw [hv, hw] at hp
      · have h6' := hp.2.2.2 6 (k + 1) (by decide) (by decide) (by omega)
        simp only [h6, h6']
        exact lk_rr_c hk m i (j + 1) _ hp (lk_tad_c g)
      · exact hp.elim
      · exact hp.elim
      · have : a = b := hp
        subst this
        exact ⟨rfl, rfl, h, g⟩
/-- a run by a rule in thought -/
abbrev lk_run (B V T : lk_O) (nf k ru : Nat) : (Nat × Nat × Int32) × lk_J := lk_rr (B 2) (B 1) (lk_qb B nf k).2 (lk_qa B nf k).2 (lk_qb B nf k).1 (lk_qa B nf k).1 k ru ((lk_qb B nf k).1 + (lk_qa B nf k).1) 0 0 0 V T
theorem lk_m2 {j : Nat} (hj : j < 2 ^ 31) : (-2 : Int32) ≤ nI j := by
  apply Int32.le_iff_toInt_le.mpr
  rw [nI_toInt hj, show (-2 : Int32).toInt = -2 from rfl]; omega
set_option maxHeartbeats 1000000 in
set_option maxRecDepth 100000 in
theorem tX8_lineUp (l : Launch) (X : lk_G) (d : Nat) (σ : lk_N) (τ : lk_T) (k : Nat) (nf : Nat) (hn : σ 11 5 0 = nI nf) (hn12 : nf ≤ 12) : lk_Mt l X mX8_lineUp (d + 4) [lk_vr 0 0, lk_vi (nI (k))] σ τ (fun rr σ1 τ1 => rr = none ∧ τ1 = τ ∧ ∃ W : lk_O × lk_O, σ1 = lk_so (lk_so σ 15 W.1) 16 W.2 ∧ lk_ln W.1 (lk_qb (σ 11) nf k) ∧ lk_ln W.2 (lk_qa (σ 11) nf k)) := by
  refine lk_met (L := [(0, lk_vr 0 0), (1, lk_vi (nI (k)))]) (by decide +kernel) (Nat.le_of_ble_eq_true rfl) rfl ?_
  obtain ⟨Q, hQ⟩ : ∃ Q : lk_Q, Q = fun rr σ1 τ1 => rr = none ∧ τ1 = τ ∧ ∃ W : lk_O × lk_O, σ1 = lk_so (lk_so σ 15 W.1) 16 W.2 ∧ lk_ln W.1 (lk_qb (σ 11) nf k) ∧ lk_ln W.2 (lk_qa (σ 11) nf k) := ⟨_, rfl⟩
  rw [← hQ]
  refine lk_aload_n dX8_lineUp_0 rfl rfl ?_
  refine lk_getO (f := 10) (o' := 15) dX8_lineUp_1 rfl fX8_47 (by decide) (by decide) rfl ?_
  refine lk_aload_n dX8_lineUp_4 rfl rfl ?_
  refine lk_getO (f := 1) (o' := 11) dX8_lineUp_5 rfl fX8_21 (by decide) (by decide) rfl ?_
  refine lk_iload_n dX8_lineUp_8 rfl rfl ?_
  refine lk_iconst (v := 1) dX8_lineUp_9 (by decide) ?_
  refine lk_callV (o := 15) (as := [lk_vr 11 0, lk_vi (nI (k)), lk_vi 1]) (S := []) dX8_lineUp_10 rfl vX3_gather rfl lX8_231 rfl rfl (Nat.le_of_ble_eq_true rfl) (tX3_gather l X d σ τ (g := 15) (f := 11) (r := (nI (k))) (u := 1) (hg := rfl) (hf := rfl) (n := nf) (hn := hn) (hn22 := by omega)) ?_
  refine lk_k4 (fun W1 hW1 => ?_)
  refine lk_cast (pc' := 13) (S' := []) rfl rfl rfl ?_
  refine lk_aload_n dX8_lineUp_13 rfl rfl ?_
  refine lk_getO (f := 11) (o' := 16) dX8_lineUp_14 rfl fX8_51 (by decide) (by decide) rfl ?_
  refine lk_aload_n dX8_lineUp_17 rfl rfl ?_
  refine lk_getO (f := 1) (o' := 11) dX8_lineUp_18 rfl fX8_21 (by decide) (by decide) rfl ?_
  refine lk_iload_n dX8_lineUp_21 rfl rfl ?_
  refine lk_iconst (v := 1) dX8_lineUp_22 (by decide) ?_
  refine lk_iaddN (a := k) (b := 1) dX8_lineUp_23 ?_
  refine lk_iconst (v := 0) dX8_lineUp_24 (by decide) ?_
  refine lk_callV (o := 16) (as := [lk_vr 11 0, lk_vi (nI (k + 1)), lk_vi 0]) (S := []) dX8_lineUp_25 rfl vX3_gather rfl lX8_231 rfl rfl (Nat.le_of_ble_eq_true rfl) (tX3_gather l X d (lk_so σ 15 W1) τ (g := 16) (f := 11) (r := (nI (k + 1))) (u := 0) (hg := rfl) (hf := rfl) (n := nf) (hn := by rw [lk_so_ne (by decide)]; exact hn) (hn22 := by omega)) ?_
  refine lk_k4 (fun W2 hW2 => ?_)
  rw [lk_so_ne (show ¬ 11 = 15 by decide)] at hW2
  refine lk_cast (pc' := 28) (S' := []) rfl rfl rfl ?_
  refine lk_vret dX8_lineUp_28 rfl ?_
  rw [hQ]
  exact ⟨rfl, rfl, (W1, W2), rfl, hW1, hW2⟩

set_option maxHeartbeats 1000000 in
set_option maxRecDepth 100000 in
theorem tX8_queue_out (l : Launch) (X : lk_G) (d : Nat) (σ : lk_N) (τ : lk_T) (k : Int32) (hk : k < 0 ∨ σ 2 0 0 ≤ k) (i : Int32) : lk_Mt l X mX8_queue (d + 5) [lk_vr 0 0, lk_vi (k), lk_vi (i)] σ τ (fun rr σ1 τ1 => rr = some (lk_vi (-1)) ∧ σ1 = σ ∧ τ1 = τ) := by
  refine lk_met (L := [(0, lk_vr 0 0), (1, lk_vi (k)), (2, lk_vi (i))]) (by decide +kernel) (Nat.le_of_ble_eq_true rfl) rfl ?_
  obtain ⟨Q, hQ⟩ : ∃ Q : lk_Q, Q = fun rr σ1 τ1 => rr = some (lk_vi (-1)) ∧ σ1 = σ ∧ τ1 = τ := ⟨_, rfl⟩
  rw [← hQ]
  refine lk_aload_n dX8_queue_0 rfl rfl ?_
  refine lk_getO (f := 0) (o' := 2) dX8_queue_1 rfl fX8_14 (by decide) (by decide) rfl ?_
  refine lk_iload_n dX8_queue_4 rfl rfl ?_
  refine lk_callV (o := 2) (as := [lk_vi (k)]) (S := []) dX8_queue_5 rfl vX0_hasLock rfl lX8_79 rfl rfl (Nat.le_of_ble_eq_true rfl) (tX0_hasLock_out l X (d + 4) σ τ (c := 2) (k := (k)) (hc := rfl) (hk := hk)) ?_
  refine lk_k3 ?_
  refine lk_cast (pc' := 8) (S' := [lk_vi 0]) rfl rfl rfl ?_
  refine lk_if_eq (tgt := 17) dX8_queue_8 (by decide) (fun hh1 => ?_) (fun hh1 => absurd hh1 (by decide))
  refine lk_iconst (v := (-1)) dX8_queue_17 (by decide) ?_
  refine lk_iret .int dX8_queue_18 rfl rfl ?_
  rw [hQ]
  exact ⟨by first | rfl | (simp [*]; done) | (simp_all; done) | grind, by first | rfl | (simp [*]; done), rfl⟩

set_option maxHeartbeats 1000000 in
set_option maxRecDepth 100000 in
theorem tX8_queue_bad (l : Launch) (X : lk_G) (d : Nat) (σ : lk_N) (τ : lk_T) (n : Nat) (hV : lk_cok (σ 2) n) (k : Nat) (hk : k < n) (i : Int32) (h : i < -2) : lk_Mt l X mX8_queue (d + 5) [lk_vr 0 0, lk_vi (nI (k)), lk_vi (i)] σ τ (fun rr σ1 τ1 => rr = some (lk_vi (-1)) ∧ σ1 = σ ∧ τ1 = τ) := by
  refine lk_met (L := [(0, lk_vr 0 0), (1, lk_vi (nI (k))), (2, lk_vi (i))]) (by decide +kernel) (Nat.le_of_ble_eq_true rfl) rfl ?_
  obtain ⟨Q, hQ⟩ : ∃ Q : lk_Q, Q = fun rr σ1 τ1 => rr = some (lk_vi (-1)) ∧ σ1 = σ ∧ τ1 = τ := ⟨_, rfl⟩
  rw [← hQ]
  refine lk_aload_n dX8_queue_0 rfl rfl ?_
  refine lk_getO (f := 0) (o' := 2) dX8_queue_1 rfl fX8_14 (by decide) (by decide) rfl ?_
  refine lk_iload_n dX8_queue_4 rfl rfl ?_
  refine lk_callV (o := 2) (as := [lk_vi (nI (k))]) (S := []) dX8_queue_5 rfl vX0_hasLock rfl lX8_79 rfl rfl (Nat.le_of_ble_eq_true rfl) (tX0_hasLock_in l X (d + 4) σ τ (c := 2) (k := (k)) (hc := rfl) (n := n) (hn := hV.1) (hk := hk) (hn6 := hV.2.2.1)) ?_
  refine lk_k3 ?_
  refine lk_cast (pc' := 8) (S' := [lk_vi 1]) rfl rfl rfl ?_
  refine lk_if_eq (tgt := 17) dX8_queue_8 (by decide) (fun hh1 => absurd hh1 (by decide)) (fun hh1 => ?_)
  refine lk_iload_n dX8_queue_11 rfl rfl ?_
  refine lk_bipush (v := (-2)) dX8_queue_12 (by decide) ?_
  refine lk_icmp_ge (tgt := 19) dX8_queue_14 (by decide) (fun hh2 => absurd hh2 (Int32.not_le.mpr h)) (fun hh2 => ?_)
  refine lk_iconst (v := (-1)) dX8_queue_17 (by decide) ?_
  refine lk_iret .int dX8_queue_18 rfl rfl ?_
  rw [hQ]
  exact ⟨by first | rfl | (simp [*]; done) | (simp_all; done) | grind, by first | rfl | (simp [*]; done), rfl⟩

set_option maxHeartbeats 1000000 in
set_option maxRecDepth 100000 in
theorem tX8_queue_m1 (l : Launch) (X : lk_G) (d : Nat) (σ : lk_N) (τ : lk_T) (n : Nat) (hV : lk_cok (σ 2) n) (k : Nat) (hk : k < n) (nf : Nat) (hn : σ 11 5 0 = nI nf) (hn12 : nf ≤ 12) : lk_Mt l X mX8_queue (d + 5) [lk_vr 0 0, lk_vi (nI (k)), lk_vi (-1)] σ τ (fun rr σ1 τ1 => rr = some (lk_vi (nI (lk_qb (σ 11) nf k).1)) ∧ τ1 = τ ∧ ∃ W : lk_N, σ1 = W ∧ lk_fr σ W) := by
  refine lk_met (L := [(0, lk_vr 0 0), (1, lk_vi (nI (k))), (2, lk_vi (-1))]) (by decide +kernel) (Nat.le_of_ble_eq_true rfl) rfl ?_
  obtain ⟨Q, hQ⟩ : ∃ Q : lk_Q, Q = fun rr σ1 τ1 => rr = some (lk_vi (nI (lk_qb (σ 11) nf k).1)) ∧ τ1 = τ ∧ ∃ W : lk_N, σ1 = W ∧ lk_fr σ W := ⟨_, rfl⟩
  rw [← hQ]
  refine lk_aload_n dX8_queue_0 rfl rfl ?_
  refine lk_getO (f := 0) (o' := 2) dX8_queue_1 rfl fX8_14 (by decide) (by decide) rfl ?_
  refine lk_iload_n dX8_queue_4 rfl rfl ?_
  refine lk_callV (o := 2) (as := [lk_vi (nI (k))]) (S := []) dX8_queue_5 rfl vX0_hasLock rfl lX8_79 rfl rfl (Nat.le_of_ble_eq_true rfl) (tX0_hasLock_in l X (d + 4) σ τ (c := 2) (k := (k)) (hc := rfl) (n := n) (hn := hV.1) (hk := hk) (hn6 := hV.2.2.1)) ?_
  refine lk_k3 ?_
  refine lk_cast (pc' := 8) (S' := [lk_vi 1]) rfl rfl rfl ?_
  refine lk_if_eq (tgt := 17) dX8_queue_8 (by decide) (fun hh1 => absurd hh1 (by decide)) (fun hh1 => ?_)
  refine lk_iload_n dX8_queue_11 rfl rfl ?_
  refine lk_bipush (v := (-2)) dX8_queue_12 (by decide) ?_
  refine lk_icmp_ge (tgt := 19) dX8_queue_14 (by decide) (fun hh2 => ?_) (fun hh2 => absurd hh2 (by decide))
  refine lk_aload_n dX8_queue_19 rfl rfl ?_
  refine lk_iload_n dX8_queue_20 rfl rfl ?_
  refine lk_callV (o := 0) (as := [lk_vi (nI (k))]) (S := []) dX8_queue_21 rfl vX8_lineUp rfl lX8_224 rfl rfl (Nat.le_of_ble_eq_true rfl) (tX8_lineUp l X d σ τ (k := (k)) (nf := nf) (hn := hn) (hn12 := hn12)) ?_
  refine lk_k4 (fun W hW => ?_)
  refine lk_cast (pc' := 24) (S' := []) rfl rfl rfl ?_
  refine lk_iload_n dX8_queue_24 rfl rfl ?_
  refine lk_if_ge (tgt := 51) dX8_queue_25 (by decide) (fun hh3 => absurd hh3 (by decide)) (fun hh3 => ?_)
  refine lk_iload_n dX8_queue_28 rfl rfl ?_
  refine lk_iconst (v := (-1)) dX8_queue_29 (by decide) ?_
  refine lk_icmp_ne (tgt := 43) dX8_queue_30 (by decide) (fun hh4 => absurd hh4 (by decide)) (fun hh4 => ?_)
  refine lk_aload_n dX8_queue_33 rfl rfl ?_
  refine lk_getO (f := 10) (o' := 15) dX8_queue_34 rfl fX8_47 (by decide) (by decide) rfl ?_
  refine lk_getIv (v := (nI ((lk_qb (σ 11) nf k).1))) (f := 1) dX8_queue_37 rfl fX8_227 (by decide) (by decide) (by rw [lk_so_ne (by decide), lk_so_eq]; exact hW.1.1) ?_
  refine lk_goto (tgt := 50) dX8_queue_40 (by decide) ?_
  refine lk_iret .int dX8_queue_50 rfl rfl ?_
  rw [hQ]
  exact ⟨rfl, rfl, _, rfl, lk_fr_so (lk_fr_so (lk_fr_rf σ) rfl _) rfl _⟩

set_option maxHeartbeats 1000000 in
set_option maxRecDepth 100000 in
theorem tX8_queue_m2 (l : Launch) (X : lk_G) (d : Nat) (σ : lk_N) (τ : lk_T) (n : Nat) (hV : lk_cok (σ 2) n) (k : Nat) (hk : k < n) (nf : Nat) (hn : σ 11 5 0 = nI nf) (hn12 : nf ≤ 12) : lk_Mt l X mX8_queue (d + 5) [lk_vr 0 0, lk_vi (nI (k)), lk_vi (-2)] σ τ (fun rr σ1 τ1 => rr = some (lk_vi (nI (lk_qa (σ 11) nf k).1)) ∧ τ1 = τ ∧ ∃ W : lk_N, σ1 = W ∧ lk_fr σ W) := by
  refine lk_met (L := [(0, lk_vr 0 0), (1, lk_vi (nI (k))), (2, lk_vi (-2))]) (by decide +kernel) (Nat.le_of_ble_eq_true rfl) rfl ?_
  obtain ⟨Q, hQ⟩ : ∃ Q : lk_Q, Q = fun rr σ1 τ1 => rr = some (lk_vi (nI (lk_qa (σ 11) nf k).1)) ∧ τ1 = τ ∧ ∃ W : lk_N, σ1 = W ∧ lk_fr σ W := ⟨_, rfl⟩
  rw [← hQ]
  refine lk_aload_n dX8_queue_0 rfl rfl ?_
  refine lk_getO (f := 0) (o' := 2) dX8_queue_1 rfl fX8_14 (by decide) (by decide) rfl ?_
  refine lk_iload_n dX8_queue_4 rfl rfl ?_
  refine lk_callV (o := 2) (as := [lk_vi (nI (k))]) (S := []) dX8_queue_5 rfl vX0_hasLock rfl lX8_79 rfl rfl (Nat.le_of_ble_eq_true rfl) (tX0_hasLock_in l X (d + 4) σ τ (c := 2) (k := (k)) (hc := rfl) (n := n) (hn := hV.1) (hk := hk) (hn6 := hV.2.2.1)) ?_
  refine lk_k3 ?_
  refine lk_cast (pc' := 8) (S' := [lk_vi 1]) rfl rfl rfl ?_
  refine lk_if_eq (tgt := 17) dX8_queue_8 (by decide) (fun hh1 => absurd hh1 (by decide)) (fun hh1 => ?_)
  refine lk_iload_n dX8_queue_11 rfl rfl ?_
  refine lk_bipush (v := (-2)) dX8_queue_12 (by decide) ?_
  refine lk_icmp_ge (tgt := 19) dX8_queue_14 (by decide) (fun hh2 => ?_) (fun hh2 => absurd hh2 (by decide))
  refine lk_aload_n dX8_queue_19 rfl rfl ?_
  refine lk_iload_n dX8_queue_20 rfl rfl ?_
  refine lk_callV (o := 0) (as := [lk_vi (nI (k))]) (S := []) dX8_queue_21 rfl vX8_lineUp rfl lX8_224 rfl rfl (Nat.le_of_ble_eq_true rfl) (tX8_lineUp l X d σ τ (k := (k)) (nf := nf) (hn := hn) (hn12 := hn12)) ?_
  refine lk_k4 (fun W hW => ?_)
  refine lk_cast (pc' := 24) (S' := []) rfl rfl rfl ?_
  refine lk_iload_n dX8_queue_24 rfl rfl ?_
  refine lk_if_ge (tgt := 51) dX8_queue_25 (by decide) (fun hh3 => absurd hh3 (by decide)) (fun hh3 => ?_)
  refine lk_iload_n dX8_queue_28 rfl rfl ?_
  refine lk_iconst (v := (-1)) dX8_queue_29 (by decide) ?_
  refine lk_icmp_ne (tgt := 43) dX8_queue_30 (by decide) (fun hh4 => ?_) (fun hh4 => absurd hh4 (by decide))
  refine lk_aload_n dX8_queue_43 rfl rfl ?_
  refine lk_getO (f := 11) (o' := 16) dX8_queue_44 rfl fX8_51 (by decide) (by decide) rfl ?_
  refine lk_getIv (v := (nI ((lk_qa (σ 11) nf k).1))) (f := 1) dX8_queue_47 rfl fX8_227 (by decide) (by decide) (by rw [lk_so_eq]; exact hW.2.1) ?_
  refine lk_iret .int dX8_queue_50 rfl rfl ?_
  rw [hQ]
  exact ⟨rfl, rfl, _, rfl, lk_fr_so (lk_fr_so (lk_fr_rf σ) rfl _) rfl _⟩

set_option maxHeartbeats 1000000 in
set_option maxRecDepth 100000 in
theorem tX8_queue_b (l : Launch) (X : lk_G) (d : Nat) (σ : lk_N) (τ : lk_T) (n : Nat) (hV : lk_cok (σ 2) n) (k : Nat) (hk : k < n) (nf : Nat) (hn : σ 11 5 0 = nI nf) (hn12 : nf ≤ 12) (j : Nat) (hj : j < 2 ^ 31) (h20 : j < 20) (h : j < (lk_qb (σ 11) nf k).1) : lk_Mt l X mX8_queue (d + 5) [lk_vr 0 0, lk_vi (nI (k)), lk_vi (nI (j))] σ τ (fun rr σ1 τ1 => rr = some (lk_vi (nI ((lk_qb (σ 11) nf k).2 j))) ∧ τ1 = τ ∧ ∃ W : lk_N, σ1 = W ∧ lk_fr σ W) := by
  refine lk_met (L := [(0, lk_vr 0 0), (1, lk_vi (nI (k))), (2, lk_vi (nI (j)))]) (by decide +kernel) (Nat.le_of_ble_eq_true rfl) rfl ?_
  obtain ⟨Q, hQ⟩ : ∃ Q : lk_Q, Q = fun rr σ1 τ1 => rr = some (lk_vi (nI ((lk_qb (σ 11) nf k).2 j))) ∧ τ1 = τ ∧ ∃ W : lk_N, σ1 = W ∧ lk_fr σ W := ⟨_, rfl⟩
  rw [← hQ]
  refine lk_aload_n dX8_queue_0 rfl rfl ?_
  refine lk_getO (f := 0) (o' := 2) dX8_queue_1 rfl fX8_14 (by decide) (by decide) rfl ?_
  refine lk_iload_n dX8_queue_4 rfl rfl ?_
  refine lk_callV (o := 2) (as := [lk_vi (nI (k))]) (S := []) dX8_queue_5 rfl vX0_hasLock rfl lX8_79 rfl rfl (Nat.le_of_ble_eq_true rfl) (tX0_hasLock_in l X (d + 4) σ τ (c := 2) (k := (k)) (hc := rfl) (n := n) (hn := hV.1) (hk := hk) (hn6 := hV.2.2.1)) ?_
  refine lk_k3 ?_
  refine lk_cast (pc' := 8) (S' := [lk_vi 1]) rfl rfl rfl ?_
  refine lk_if_eq (tgt := 17) dX8_queue_8 (by decide) (fun hh1 => absurd hh1 (by decide)) (fun hh1 => ?_)
  refine lk_iload_n dX8_queue_11 rfl rfl ?_
  refine lk_bipush (v := (-2)) dX8_queue_12 (by decide) ?_
  refine lk_icmp_ge (tgt := 19) dX8_queue_14 (by decide) (fun hh2 => ?_) (fun hh2 => absurd hh2 (by intro q; exact q (lk_m2 hj)))
  refine lk_aload_n dX8_queue_19 rfl rfl ?_
  refine lk_iload_n dX8_queue_20 rfl rfl ?_
  refine lk_callV (o := 0) (as := [lk_vi (nI (k))]) (S := []) dX8_queue_21 rfl vX8_lineUp rfl lX8_224 rfl rfl (Nat.le_of_ble_eq_true rfl) (tX8_lineUp l X d σ τ (k := (k)) (nf := nf) (hn := hn) (hn12 := hn12)) ?_
  refine lk_k4 (fun W hW => ?_)
  refine lk_cast (pc' := 24) (S' := []) rfl rfl rfl ?_
  refine lk_iload_n dX8_queue_24 rfl rfl ?_
  refine lk_if_geN (a := j) (tgt := 51) dX8_queue_25 (by decide) (by omega) (fun hh3 => ?_) (fun hh3 => absurd hh3 (by omega))
  refine lk_iload_n dX8_queue_51 rfl rfl ?_
  refine lk_bipush (v := 20) dX8_queue_52 (by decide) ?_
  refine lk_icmp_geN (a := j) (b := 20) (tgt := 68) dX8_queue_54 (by decide) (by omega) (by omega) (fun hh4 => absurd hh4 (by omega)) (fun hh4 => ?_)
  refine lk_aload_n dX8_queue_57 rfl rfl ?_
  refine lk_getO (f := 10) (o' := 15) dX8_queue_58 rfl fX8_47 (by decide) (by decide) rfl ?_
  refine lk_iload_n dX8_queue_61 rfl rfl ?_
  refine lk_callV (o := 15) (as := [lk_vi (nI (j))]) (S := []) dX8_queue_62 rfl vX3_boatAt rfl lX8_228 rfl rfl (Nat.le_of_ble_eq_true rfl) (tX3_boatAt_in l X (d + 4) (lk_so (lk_so σ 15 W.1) 16 W.2) τ (g := 15) (i := (j)) (hg := rfl) (hc := by rw [lk_so_ne (by decide), lk_so_eq]; exact hW.1.1) (hi := h) (hc22 := (Nat.le_trans (lk_gat_le (σ 11) (nI k) 1 nf) (by omega))) (hx := by rw [lk_so_ne (by decide), lk_so_eq]; exact hW.1.2 j h)) ?_
  refine lk_k3 ?_
  refine lk_cast (pc' := 65) (S' := [lk_vi (nI (((lk_qb (σ 11) nf k).2 j)))]) rfl rfl rfl ?_
  refine lk_goto (tgt := 79) dX8_queue_65 (by decide) ?_
  refine lk_iret .int dX8_queue_79 rfl rfl ?_
  rw [hQ]
  exact ⟨rfl, rfl, _, rfl, lk_fr_so (lk_fr_so (lk_fr_rf σ) rfl _) rfl _⟩

set_option maxHeartbeats 1000000 in
set_option maxRecDepth 100000 in
theorem tX8_queue_bx (l : Launch) (X : lk_G) (d : Nat) (σ : lk_N) (τ : lk_T) (n : Nat) (hV : lk_cok (σ 2) n) (k : Nat) (hk : k < n) (nf : Nat) (hn : σ 11 5 0 = nI nf) (hn12 : nf ≤ 12) (j : Nat) (hj : j < 2 ^ 31) (h20 : j < 20) (h : (lk_qb (σ 11) nf k).1 ≤ j) : lk_Mt l X mX8_queue (d + 5) [lk_vr 0 0, lk_vi (nI (k)), lk_vi (nI (j))] σ τ (fun rr σ1 τ1 => rr = some (lk_vi (-2)) ∧ τ1 = τ ∧ ∃ W : lk_N, σ1 = W ∧ lk_fr σ W) := by
  refine lk_met (L := [(0, lk_vr 0 0), (1, lk_vi (nI (k))), (2, lk_vi (nI (j)))]) (by decide +kernel) (Nat.le_of_ble_eq_true rfl) rfl ?_
  obtain ⟨Q, hQ⟩ : ∃ Q : lk_Q, Q = fun rr σ1 τ1 => rr = some (lk_vi (-2)) ∧ τ1 = τ ∧ ∃ W : lk_N, σ1 = W ∧ lk_fr σ W := ⟨_, rfl⟩
  rw [← hQ]
  refine lk_aload_n dX8_queue_0 rfl rfl ?_
  refine lk_getO (f := 0) (o' := 2) dX8_queue_1 rfl fX8_14 (by decide) (by decide) rfl ?_
  refine lk_iload_n dX8_queue_4 rfl rfl ?_
  refine lk_callV (o := 2) (as := [lk_vi (nI (k))]) (S := []) dX8_queue_5 rfl vX0_hasLock rfl lX8_79 rfl rfl (Nat.le_of_ble_eq_true rfl) (tX0_hasLock_in l X (d + 4) σ τ (c := 2) (k := (k)) (hc := rfl) (n := n) (hn := hV.1) (hk := hk) (hn6 := hV.2.2.1)) ?_
  refine lk_k3 ?_
  refine lk_cast (pc' := 8) (S' := [lk_vi 1]) rfl rfl rfl ?_
  refine lk_if_eq (tgt := 17) dX8_queue_8 (by decide) (fun hh1 => absurd hh1 (by decide)) (fun hh1 => ?_)
  refine lk_iload_n dX8_queue_11 rfl rfl ?_
  refine lk_bipush (v := (-2)) dX8_queue_12 (by decide) ?_
  refine lk_icmp_ge (tgt := 19) dX8_queue_14 (by decide) (fun hh2 => ?_) (fun hh2 => absurd hh2 (by intro q; exact q (lk_m2 hj)))
  refine lk_aload_n dX8_queue_19 rfl rfl ?_
  refine lk_iload_n dX8_queue_20 rfl rfl ?_
  refine lk_callV (o := 0) (as := [lk_vi (nI (k))]) (S := []) dX8_queue_21 rfl vX8_lineUp rfl lX8_224 rfl rfl (Nat.le_of_ble_eq_true rfl) (tX8_lineUp l X d σ τ (k := (k)) (nf := nf) (hn := hn) (hn12 := hn12)) ?_
  refine lk_k4 (fun W hW => ?_)
  refine lk_cast (pc' := 24) (S' := []) rfl rfl rfl ?_
  refine lk_iload_n dX8_queue_24 rfl rfl ?_
  refine lk_if_geN (a := j) (tgt := 51) dX8_queue_25 (by decide) (by omega) (fun hh3 => ?_) (fun hh3 => absurd hh3 (by omega))
  refine lk_iload_n dX8_queue_51 rfl rfl ?_
  refine lk_bipush (v := 20) dX8_queue_52 (by decide) ?_
  refine lk_icmp_geN (a := j) (b := 20) (tgt := 68) dX8_queue_54 (by decide) (by omega) (by omega) (fun hh4 => absurd hh4 (by omega)) (fun hh4 => ?_)
  refine lk_aload_n dX8_queue_57 rfl rfl ?_
  refine lk_getO (f := 10) (o' := 15) dX8_queue_58 rfl fX8_47 (by decide) (by decide) rfl ?_
  refine lk_iload_n dX8_queue_61 rfl rfl ?_
  refine lk_callV (o := 15) (as := [lk_vi (nI (j))]) (S := []) dX8_queue_62 rfl vX3_boatAt rfl lX8_228 rfl rfl (Nat.le_of_ble_eq_true rfl) (tX3_boatAt_out l X (d + 4) (lk_so (lk_so σ 15 W.1) 16 W.2) τ (g := 15) (i := (nI (j))) (hg := rfl) (hi := Or.inr (by rw [lk_so_ne (by decide), lk_so_eq]; rw [hW.1.1]; exact nI_le h (by omega)))) ?_
  refine lk_k3 ?_
  refine lk_cast (pc' := 65) (S' := [lk_vi (-2)]) rfl rfl rfl ?_
  refine lk_goto (tgt := 79) dX8_queue_65 (by decide) ?_
  refine lk_iret .int dX8_queue_79 rfl rfl ?_
  rw [hQ]
  exact ⟨rfl, rfl, _, rfl, lk_fr_so (lk_fr_so (lk_fr_rf σ) rfl _) rfl _⟩

set_option maxHeartbeats 1000000 in
set_option maxRecDepth 100000 in
theorem tX8_queue_a (l : Launch) (X : lk_G) (d : Nat) (σ : lk_N) (τ : lk_T) (n : Nat) (hV : lk_cok (σ 2) n) (k : Nat) (hk : k < n) (nf : Nat) (hn : σ 11 5 0 = nI nf) (hn12 : nf ≤ 12) (j : Nat) (hj : j < 2 ^ 31) (h20 : 20 ≤ j) (h : j - 20 < (lk_qa (σ 11) nf k).1) : lk_Mt l X mX8_queue (d + 5) [lk_vr 0 0, lk_vi (nI (k)), lk_vi (nI (j))] σ τ (fun rr σ1 τ1 => rr = some (lk_vi (nI ((lk_qa (σ 11) nf k).2 (j - 20)))) ∧ τ1 = τ ∧ ∃ W : lk_N, σ1 = W ∧ lk_fr σ W) := by
  refine lk_met (L := [(0, lk_vr 0 0), (1, lk_vi (nI (k))), (2, lk_vi (nI (j)))]) (by decide +kernel) (Nat.le_of_ble_eq_true rfl) rfl ?_
  obtain ⟨Q, hQ⟩ : ∃ Q : lk_Q, Q = fun rr σ1 τ1 => rr = some (lk_vi (nI ((lk_qa (σ 11) nf k).2 (j - 20)))) ∧ τ1 = τ ∧ ∃ W : lk_N, σ1 = W ∧ lk_fr σ W := ⟨_, rfl⟩
  rw [← hQ]
  refine lk_aload_n dX8_queue_0 rfl rfl ?_
  refine lk_getO (f := 0) (o' := 2) dX8_queue_1 rfl fX8_14 (by decide) (by decide) rfl ?_
  refine lk_iload_n dX8_queue_4 rfl rfl ?_
  refine lk_callV (o := 2) (as := [lk_vi (nI (k))]) (S := []) dX8_queue_5 rfl vX0_hasLock rfl lX8_79 rfl rfl (Nat.le_of_ble_eq_true rfl) (tX0_hasLock_in l X (d + 4) σ τ (c := 2) (k := (k)) (hc := rfl) (n := n) (hn := hV.1) (hk := hk) (hn6 := hV.2.2.1)) ?_
  refine lk_k3 ?_
  refine lk_cast (pc' := 8) (S' := [lk_vi 1]) rfl rfl rfl ?_
  refine lk_if_eq (tgt := 17) dX8_queue_8 (by decide) (fun hh1 => absurd hh1 (by decide)) (fun hh1 => ?_)
  refine lk_iload_n dX8_queue_11 rfl rfl ?_
  refine lk_bipush (v := (-2)) dX8_queue_12 (by decide) ?_
  refine lk_icmp_ge (tgt := 19) dX8_queue_14 (by decide) (fun hh2 => ?_) (fun hh2 => absurd hh2 (by intro q; exact q (lk_m2 hj)))
  refine lk_aload_n dX8_queue_19 rfl rfl ?_
  refine lk_iload_n dX8_queue_20 rfl rfl ?_
  refine lk_callV (o := 0) (as := [lk_vi (nI (k))]) (S := []) dX8_queue_21 rfl vX8_lineUp rfl lX8_224 rfl rfl (Nat.le_of_ble_eq_true rfl) (tX8_lineUp l X d σ τ (k := (k)) (nf := nf) (hn := hn) (hn12 := hn12)) ?_
  refine lk_k4 (fun W hW => ?_)
  refine lk_cast (pc' := 24) (S' := []) rfl rfl rfl ?_
  refine lk_iload_n dX8_queue_24 rfl rfl ?_
  refine lk_if_geN (a := j) (tgt := 51) dX8_queue_25 (by decide) (by omega) (fun hh3 => ?_) (fun hh3 => absurd hh3 (by omega))
  refine lk_iload_n dX8_queue_51 rfl rfl ?_
  refine lk_bipush (v := 20) dX8_queue_52 (by decide) ?_
  refine lk_icmp_geN (a := j) (b := 20) (tgt := 68) dX8_queue_54 (by decide) (by omega) (by omega) (fun hh4 => ?_) (fun hh4 => absurd hh4 (by omega))
  refine lk_aload_n dX8_queue_68 rfl rfl ?_
  refine lk_getO (f := 11) (o' := 16) dX8_queue_69 rfl fX8_51 (by decide) (by decide) rfl ?_
  refine lk_iload_n dX8_queue_72 rfl rfl ?_
  refine lk_bipush (v := 20) dX8_queue_73 (by decide) ?_
  refine lk_isubN (a := j) (b := 20) dX8_queue_75 (by omega) ?_
  refine lk_callV (o := 16) (as := [lk_vi (nI ((j) - (20)))]) (S := []) dX8_queue_76 rfl vX3_boatAt rfl lX8_228 rfl rfl (Nat.le_of_ble_eq_true rfl) (tX3_boatAt_in l X (d + 4) (lk_so (lk_so σ 15 W.1) 16 W.2) τ (g := 16) (i := ((j) - (20))) (hg := rfl) (hc := by rw [lk_so_eq]; exact hW.2.1) (hi := h) (hc22 := (Nat.le_trans (lk_gat_le (σ 11) (nI (k + 1)) 0 nf) (by omega))) (hx := by rw [lk_so_eq]; exact hW.2.2 (j - 20) h)) ?_
  refine lk_k3 ?_
  refine lk_cast (pc' := 79) (S' := [lk_vi (nI (((lk_qa (σ 11) nf k).2 (j - 20))))]) rfl rfl rfl ?_
  refine lk_iret .int dX8_queue_79 rfl rfl ?_
  rw [hQ]
  exact ⟨rfl, rfl, _, rfl, lk_fr_so (lk_fr_so (lk_fr_rf σ) rfl _) rfl _⟩

set_option maxHeartbeats 1000000 in
set_option maxRecDepth 100000 in
theorem tX8_queue_ax (l : Launch) (X : lk_G) (d : Nat) (σ : lk_N) (τ : lk_T) (n : Nat) (hV : lk_cok (σ 2) n) (k : Nat) (hk : k < n) (nf : Nat) (hn : σ 11 5 0 = nI nf) (hn12 : nf ≤ 12) (j : Nat) (hj : j < 2 ^ 31) (h20 : 20 ≤ j) (h : (lk_qa (σ 11) nf k).1 ≤ j - 20) : lk_Mt l X mX8_queue (d + 5) [lk_vr 0 0, lk_vi (nI (k)), lk_vi (nI (j))] σ τ (fun rr σ1 τ1 => rr = some (lk_vi (-2)) ∧ τ1 = τ ∧ ∃ W : lk_N, σ1 = W ∧ lk_fr σ W) := by
  refine lk_met (L := [(0, lk_vr 0 0), (1, lk_vi (nI (k))), (2, lk_vi (nI (j)))]) (by decide +kernel) (Nat.le_of_ble_eq_true rfl) rfl ?_
  obtain ⟨Q, hQ⟩ : ∃ Q : lk_Q, Q = fun rr σ1 τ1 => rr = some (lk_vi (-2)) ∧ τ1 = τ ∧ ∃ W : lk_N, σ1 = W ∧ lk_fr σ W := ⟨_, rfl⟩
  rw [← hQ]
  refine lk_aload_n dX8_queue_0 rfl rfl ?_
  refine lk_getO (f := 0) (o' := 2) dX8_queue_1 rfl fX8_14 (by decide) (by decide) rfl ?_
  refine lk_iload_n dX8_queue_4 rfl rfl ?_
  refine lk_callV (o := 2) (as := [lk_vi (nI (k))]) (S := []) dX8_queue_5 rfl vX0_hasLock rfl lX8_79 rfl rfl (Nat.le_of_ble_eq_true rfl) (tX0_hasLock_in l X (d + 4) σ τ (c := 2) (k := (k)) (hc := rfl) (n := n) (hn := hV.1) (hk := hk) (hn6 := hV.2.2.1)) ?_
  refine lk_k3 ?_
  refine lk_cast (pc' := 8) (S' := [lk_vi 1]) rfl rfl rfl ?_
  refine lk_if_eq (tgt := 17) dX8_queue_8 (by decide) (fun hh1 => absurd hh1 (by decide)) (fun hh1 => ?_)
  refine lk_iload_n dX8_queue_11 rfl rfl ?_
  refine lk_bipush (v := (-2)) dX8_queue_12 (by decide) ?_
  refine lk_icmp_ge (tgt := 19) dX8_queue_14 (by decide) (fun hh2 => ?_) (fun hh2 => absurd hh2 (by intro q; exact q (lk_m2 hj)))
  refine lk_aload_n dX8_queue_19 rfl rfl ?_
  refine lk_iload_n dX8_queue_20 rfl rfl ?_
  refine lk_callV (o := 0) (as := [lk_vi (nI (k))]) (S := []) dX8_queue_21 rfl vX8_lineUp rfl lX8_224 rfl rfl (Nat.le_of_ble_eq_true rfl) (tX8_lineUp l X d σ τ (k := (k)) (nf := nf) (hn := hn) (hn12 := hn12)) ?_
  refine lk_k4 (fun W hW => ?_)
  refine lk_cast (pc' := 24) (S' := []) rfl rfl rfl ?_
  refine lk_iload_n dX8_queue_24 rfl rfl ?_
  refine lk_if_geN (a := j) (tgt := 51) dX8_queue_25 (by decide) (by omega) (fun hh3 => ?_) (fun hh3 => absurd hh3 (by omega))
  refine lk_iload_n dX8_queue_51 rfl rfl ?_
  refine lk_bipush (v := 20) dX8_queue_52 (by decide) ?_
  refine lk_icmp_geN (a := j) (b := 20) (tgt := 68) dX8_queue_54 (by decide) (by omega) (by omega) (fun hh4 => ?_) (fun hh4 => absurd hh4 (by omega))
  refine lk_aload_n dX8_queue_68 rfl rfl ?_
  refine lk_getO (f := 11) (o' := 16) dX8_queue_69 rfl fX8_51 (by decide) (by decide) rfl ?_
  refine lk_iload_n dX8_queue_72 rfl rfl ?_
  refine lk_bipush (v := 20) dX8_queue_73 (by decide) ?_
  refine lk_isubN (a := j) (b := 20) dX8_queue_75 (by omega) ?_
  refine lk_callV (o := 16) (as := [lk_vi (nI ((j) - (20)))]) (S := []) dX8_queue_76 rfl vX3_boatAt rfl lX8_228 rfl rfl (Nat.le_of_ble_eq_true rfl) (tX3_boatAt_out l X (d + 4) (lk_so (lk_so σ 15 W.1) 16 W.2) τ (g := 16) (i := (nI ((j) - (20)))) (hg := rfl) (hi := Or.inr (by rw [lk_so_eq]; rw [hW.2.1]; exact nI_le h (by omega)))) ?_
  refine lk_k3 ?_
  refine lk_cast (pc' := 79) (S' := [lk_vi (-2)]) rfl rfl rfl ?_
  refine lk_iret .int dX8_queue_79 rfl rfl ?_
  rw [hQ]
  exact ⟨rfl, rfl, _, rfl, lk_fr_so (lk_fr_so (lk_fr_rf σ) rfl _) rfl _⟩

set_option maxHeartbeats 1000000 in
set_option maxRecDepth 100000 in
theorem tX8_moveOnFirst (l : Launch) (X : lk_G) (d : Nat) (σ : lk_N) (τ : lk_T) (g : Nat) (hg : lk_ko g = 3) (nf : Nat) (hn : σ 11 5 0 = nI nf) (hn12 : nf ≤ 12) (c m : Nat) (q : Nat → Nat) (hc : σ g 1 0 = nI c) (hc12 : c ≤ 12) (hm : m ≤ c) (hq : ∀ i, i < c → σ g 0 i = nI (q i)) (hqn : ∀ i, i < c → q i < nf) : lk_Mt l X mX8_moveOnFirst (d + 2) [lk_vr 0 0, lk_vr g 0, lk_vi (nI (m))] σ τ (fun rr σ1 τ1 => rr = none ∧ σ1 = lk_so σ 11 (lk_mvs (σ 11) q m) ∧ τ1 = τ) := by
  refine lk_met (L := [(0, lk_vr 0 0), (1, lk_vr g 0), (2, lk_vi (nI (m)))]) (by decide +kernel) (Nat.le_of_ble_eq_true rfl) rfl ?_
  obtain ⟨Q, hQ⟩ : ∃ Q : lk_Q, Q = fun rr σ1 τ1 => rr = none ∧ σ1 = lk_so σ 11 (lk_mvs (σ 11) q m) ∧ τ1 = τ := ⟨_, rfl⟩
  rw [← hQ]
  have hg11 : ¬ g = 11 := by intro e; rw [e] at hg; cases hg
  refine lk_iconst (v := 0) dX8_moveOnFirst_0 (by decide) ?_
  refine lk_istore_n (L' := [(0, lk_vr 0 0), (1, lk_vr g 0), (2, lk_vi (nI (m))), (3, lk_vi 0)]) dX8_moveOnFirst_1 rfl (by decide +kernel) rfl ?_
  have LP2 : ∀ (fu : Nat) (i : Nat), i ≤ m → m - i < fu → lk_W l X mX8_moveOnFirst (d + 2) 2 [(0, lk_vr 0 0), (1, lk_vr g 0), (2, lk_vi (nI (m))), (3, lk_vi (nI (i)))] [] (lk_so σ 11 (lk_mvs (σ 11) q i)) τ Q := by
    intro fu
    induction fu with
    | zero => intro i hi hfu; exact absurd hfu (by omega)
    | succ fu ih =>
      intro i hi hfu
      refine lk_iload_n dX8_moveOnFirst_2 rfl rfl ?_
      refine lk_iload_n dX8_moveOnFirst_3 rfl rfl ?_
      refine lk_icmp_geN (a := i) (b := m) (tgt := 26) dX8_moveOnFirst_4 (by decide) (by omega) (by omega) (fun hh1 => ?_) (fun hh1 => ?_)
      ·
        refine lk_vret dX8_moveOnFirst_26 rfl ?_
        rw [hQ]
        have hi : i = m := by omega
        subst hi
        exact ⟨rfl, rfl, rfl⟩
      ·
        refine lk_aload_n dX8_moveOnFirst_7 rfl rfl ?_
        refine lk_getO (f := 1) (o' := 11) dX8_moveOnFirst_8 rfl fX8_21 (by decide) (by decide) rfl ?_
        refine lk_aload_n dX8_moveOnFirst_11 rfl rfl ?_
        refine lk_iload_n dX8_moveOnFirst_12 rfl rfl ?_
        refine lk_callV (o := g) (as := [lk_vi (nI (i))]) (S := [lk_vr 11 0]) dX8_moveOnFirst_13 rfl vX3_boatAt rfl lX8_228 hg rfl (Nat.le_of_ble_eq_true rfl) (tX3_boatAt_in l X (d + 1) (lk_so σ 11 (lk_mvs (σ 11) q i)) τ (g := g) (i := (i)) (hg := hg) (hc := by rw [lk_so_ne hg11]; exact hc) (hi := by omega) (hc22 := by omega) (hx := by rw [lk_so_ne hg11]; exact hq i (by omega))) ?_
        refine lk_k3 ?_
        refine lk_cast (pc' := 16) (S' := [lk_vi (nI ((q i))), lk_vr 11 0]) rfl rfl rfl ?_
        refine lk_iconst (v := 1) dX8_moveOnFirst_16 (by decide) ?_
        refine lk_callV (o := 11) (as := [lk_vi (nI ((q i))), lk_vi 1]) (S := []) dX8_moveOnFirst_17 rfl vX2_moveOn rfl lX8_203 rfl rfl (Nat.le_of_ble_eq_true rfl) (tX2_moveOn l X d (lk_so σ 11 (lk_mvs (σ 11) q i)) τ (f := 11) (b := ((q i))) (r := 1) (hf := rfl) (n := nf) (hn := by rw [lk_so_eq, lk_mvs_3 _ _ _ 5 (by decide)]; exact hn) (hb := hqn i (by omega)) (hn22 := by omega)) ?_
        refine lk_k3 ?_
        refine lk_cast (pc' := 20) (S' := []) rfl rfl rfl ?_
        refine lk_iincN (a := i) (m := 1) (L' := [(0, lk_vr 0 0), (1, lk_vr g 0), (2, lk_vi (nI (m))), (3, lk_vi (nI (i + 1)))]) dX8_moveOnFirst_20 rfl rfl (by decide +kernel) rfl ?_
        refine lk_goto (tgt := 2) dX8_moveOnFirst_23 (by decide) ?_
        rw [lk_up_so, lk_so_so, lk_so_eq]
        exact ih (i + 1) (by omega) (by omega)
  refine lk_sg (lk_so_self σ 11) ?_
  exact LP2 (m + 1) 0 (Nat.zero_le _) (by omega)
