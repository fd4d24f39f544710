/-- boats from below among the first e of an order -/
def lk_cz (N m : Nat) : Nat → Nat
  | 0 => 0
  | e + 1 => if m / 2 ^ (N - 1 - e) % 2 = 0 then lk_cz N m e + 1 else lk_cz N m e
theorem lk_cz_le (N m : Nat) : ∀ e, lk_cz N m e ≤ e
  | 0 => Nat.le_refl _
  | e + 1 => by
    have := lk_cz_le N m e
    unfold lk_cz
    split <;> omega
theorem lk_cz_onz (N m : Nat) : ∀ e, e ≤ N → lk_onz N m + lk_cz N m e = lk_onz (N - e) m + e
  | 0, _ => rfl
  | e + 1, h => by
    have i := lk_cz_onz N m e (by omega)
    have o : lk_onz (N - e) m = lk_onz (N - (e + 1)) m + m / 2 ^ (N - 1 - e) % 2 := by
      rw [show N - e = (N - (e + 1)) + 1 by omega, lk_onz, show N - (e + 1) = N - 1 - e by omega]
    have b : m / 2 ^ (N - 1 - e) % 2 < 2 := Nat.mod_lt _ (by decide)
    unfold lk_cz
    split <;> omega
/-- the i-th boat of an order -/
def lk_bob (qb qa : Nat → Nat) (N m i : Nat) : Nat := if m / 2 ^ (N - 1 - i) % 2 = 0 then qb (lk_cz N m i) else qa (i - lk_cz N m i)
theorem lk_wvo_b (Z : Nat → Int32) (qb qa : Nat → Nat) (k N A : Nat) (V : lk_O) : ∀ m, ¬ (lk_wvo Z qb qa k N A V m).1 = 0 → (lk_wvo Z qb qa k N A V m).2.2 < m ∧ lk_onz N (lk_wvo Z qb qa k N A V m).2.2 = A
  | 0, h => absurd rfl h
  | m + 1, h => by
    have ih := lk_wvo_b Z qb qa k N A V m
    unfold lk_wvo at h ⊢
    split
    · rename_i ho
      rw [if_pos ho] at h
      cases hs : lk_spo Z qb qa k m N 0 0 0 V with
      | none =>
        rw [hs] at h
        have := ih h
        exact ⟨Nat.lt_succ_of_lt this.1, this.2⟩
      | some z =>
        show (if (lk_wvo Z qb qa k N A V m).1 = 0 ∨ z < (lk_wvo Z qb qa k N A V m).2.1 then m else (lk_wvo Z qb qa k N A V m).2.2) < m + 1 ∧ lk_onz N (if (lk_wvo Z qb qa k N A V m).1 = 0 ∨ z < (lk_wvo Z qb qa k N A V m).2.1 then m else (lk_wvo Z qb qa k N A V m).2.2) = A
        split
        · exact ⟨Nat.lt_succ_self m, ho⟩
        · rename_i hc
          have := ih (fun e => hc (Or.inl e))
          exact ⟨Nat.lt_succ_of_lt this.1, this.2⟩
    · rename_i ho
      rw [if_neg ho] at h
      have := ih h
      exact ⟨Nat.lt_succ_of_lt this.1, this.2⟩
set_option maxHeartbeats 1000000 in
set_option maxRecDepth 100000 in
theorem tX8_boatOfBest (l : Launch) (X : lk_G) (d : Nat) (σ : lk_N) (τ : lk_T) (N A B g m i : Nat) (s : Int32) (hw : σ 18 = lk_ww N A g s m) (hN12 : N ≤ 12) (hm : m < 2 ^ N) (hon : lk_onz N m = A) (hi : i < N) (hN : N = A + B) (cb ca : Nat) (qb qa : Nat → Nat) (hgb : σ 15 1 0 = nI cb) (hha : σ 16 1 0 = nI ca) (hqb : ∀ i, i < cb → σ 15 0 i = nI (qb i)) (hqa : ∀ i, i < ca → σ 16 0 i = nI (qa i)) (hcb : cb ≤ 22) (hca : ca ≤ 22) (hB : B ≤ cb) (hA : A ≤ ca) : lk_Mt l X mX8_boatOfBest (d + 1) [lk_vr 0 0, lk_vi (nI (i))] σ τ (fun rr σ1 τ1 => rr = some (lk_vi (nI (lk_bob qb qa N m i))) ∧ σ1 = σ ∧ τ1 = τ) := by
  refine lk_met (L := [(0, lk_vr 0 0), (1, lk_vi (nI (i)))]) (by decide +kernel) (Nat.le_of_ble_eq_true rfl) rfl ?_
  obtain ⟨Q, hQ⟩ : ∃ Q : lk_Q, Q = fun rr σ1 τ1 => rr = some (lk_vi (nI (lk_bob qb qa N m i))) ∧ σ1 = σ ∧ τ1 = τ := ⟨_, rfl⟩
  rw [← hQ]
  have hle := lk_cz_le N m i
  have hoz := lk_cz_onz N m i (by omega)
  have hpl := lk_onz_le (N - (i + 1)) m
  have hb1 : m / 2 ^ (N - 1 - i) % 2 < 2 := Nat.mod_lt _ (by decide)
  have hsp : lk_onz (N - i) m = lk_onz (N - (i + 1)) m + m / 2 ^ (N - 1 - i) % 2 := by
    rw [show N - i = (N - (i + 1)) + 1 by omega, lk_onz, show N - (i + 1) = N - 1 - i by omega]
  refine lk_aload_n dX8_boatOfBest_0 rfl rfl ?_
  refine lk_getO (f := 13) (o' := 18) dX8_boatOfBest_1 rfl fX8_64 (by decide) (by decide) rfl ?_
  refine lk_getIv (v := (nI (m))) (f := 4) dX8_boatOfBest_4 rfl fX8_273 (by decide) (by decide) (by rw [hw]; rfl) ?_
  refine lk_istore_n (L' := [(0, lk_vr 0 0), (1, lk_vi (nI (i))), (2, lk_vi (nI (m)))]) dX8_boatOfBest_7 rfl (by decide +kernel) rfl ?_
  refine lk_iconst (v := 0) dX8_boatOfBest_8 (by decide) ?_
  refine lk_istore_n (L' := [(0, lk_vr 0 0), (1, lk_vi (nI (i))), (2, lk_vi (nI (m))), (3, lk_vi 0)]) dX8_boatOfBest_9 rfl (by decide +kernel) rfl ?_
  refine lk_iconst (v := 0) dX8_boatOfBest_10 (by decide) ?_
  refine lk_istore (L' := [(0, lk_vr 0 0), (1, lk_vi (nI (i))), (2, lk_vi (nI (m))), (3, lk_vi 0), (4, lk_vi 0)]) dX8_boatOfBest_11 (by decide +kernel) rfl ?_
  have LP13 : ∀ (fu : Nat) (e c : Nat), e ≤ i → c = lk_cz N m e → i - e < fu → lk_W l X mX8_boatOfBest (d + 1) 13 [(0, lk_vr 0 0), (1, lk_vi (nI (i))), (2, lk_vi (nI (m))), (3, lk_vi (nI (c))), (4, lk_vi (nI (e)))] [] σ τ Q := by
    intro fu
    induction fu with
    | zero => intro e c he hc hfu; exact absurd hfu (by omega)
    | succ fu ih =>
      intro e c he hc hfu
      refine lk_iload dX8_boatOfBest_13 rfl ?_
      refine lk_iload_n dX8_boatOfBest_15 rfl rfl ?_
      refine lk_icmp_geN (a := e) (b := i) (tgt := 41) dX8_boatOfBest_16 (by decide) (by omega) (by omega) (fun hh1 => ?_) (fun hh1 => ?_)
      ·
        have hei : i = e := by omega
        subst hei
        subst hc
        refine lk_aload_n dX8_boatOfBest_41 rfl rfl ?_
        refine lk_getO (f := 13) (o' := 18) dX8_boatOfBest_42 rfl fX8_64 (by decide) (by decide) rfl ?_
        refine lk_iload_n dX8_boatOfBest_45 rfl rfl ?_
        refine lk_iload_n dX8_boatOfBest_46 rfl rfl ?_
        refine lk_callV (o := 18) (as := [lk_vi (nI (m)), lk_vi (nI (i))]) (S := []) dX8_boatOfBest_47 rfl vX7_isFromBelow rfl lX8_261 rfl rfl (Nat.le_of_ble_eq_true rfl) (tX7_isFromBelow l X d σ τ (m := (m)) (i := (i)) (N := N) (a := A) (g := g) (b := m) (s := s) (hW := hw) (hN := hN12) (hm := hm) (hi := by omega)) ?_
        refine lk_k3 ?_
        refine lk_cast (pc' := 50) (S' := [lk_vi (if (m) / 2 ^ (N - 1 - (i)) % 2 = 0 then 1 else 0)]) rfl rfl rfl ?_
        refine lk_if_eqB (tgt := 64) dX8_boatOfBest_50 (by decide) (fun hh2 => ?_) (fun hh2 => ?_)
        ·
          refine lk_aload_n dX8_boatOfBest_64 rfl rfl ?_
          refine lk_getO (f := 11) (o' := 16) dX8_boatOfBest_65 rfl fX8_51 (by decide) (by decide) rfl ?_
          refine lk_iload_n dX8_boatOfBest_68 rfl rfl ?_
          refine lk_iload_n dX8_boatOfBest_69 rfl rfl ?_
          refine lk_isubN (a := i) (b := lk_cz N m i) dX8_boatOfBest_70 (by omega) ?_
          refine lk_callV (o := 16) (as := [lk_vi (nI ((i) - (lk_cz N m i)))]) (S := []) dX8_boatOfBest_71 rfl vX3_boatAt rfl lX8_228 rfl rfl (Nat.le_of_ble_eq_true rfl) (tX3_boatAt_in l X d σ τ (g := 16) (i := ((i) - (lk_cz N m i))) (hg := rfl) (hc := hha) (hi := by omega) (hc22 := hca) (hx := hqa _ (by omega))) ?_
          refine lk_k3 ?_
          refine lk_cast (pc' := 74) (S' := [lk_vi (nI ((qa (i - lk_cz N m i))))]) rfl rfl rfl ?_
          refine lk_iret .int dX8_boatOfBest_74 rfl rfl ?_
          rw [hQ]
          refine ⟨?_, rfl, rfl⟩
          unfold lk_bob
          first | rw [if_pos (by assumption)] | rw [if_neg (by assumption)]
        ·
          refine lk_aload_n dX8_boatOfBest_53 rfl rfl ?_
          refine lk_getO (f := 10) (o' := 15) dX8_boatOfBest_54 rfl fX8_47 (by decide) (by decide) rfl ?_
          refine lk_iload_n dX8_boatOfBest_57 rfl rfl ?_
          refine lk_callV (o := 15) (as := [lk_vi (nI (lk_cz N m i))]) (S := []) dX8_boatOfBest_58 rfl vX3_boatAt rfl lX8_228 rfl rfl (Nat.le_of_ble_eq_true rfl) (tX3_boatAt_in l X d σ τ (g := 15) (i := (lk_cz N m i)) (hg := rfl) (hc := hgb) (hi := by omega) (hc22 := hcb) (hx := hqb _ (by omega))) ?_
          refine lk_k3 ?_
          refine lk_cast (pc' := 61) (S' := [lk_vi (nI ((qb (lk_cz N m i))))]) rfl rfl rfl ?_
          refine lk_goto (tgt := 74) dX8_boatOfBest_61 (by decide) ?_
          refine lk_iret .int dX8_boatOfBest_74 rfl rfl ?_
          rw [hQ]
          refine ⟨?_, rfl, rfl⟩
          unfold lk_bob
          first | rw [if_pos (by assumption)] | rw [if_neg (by assumption)]
      ·
        refine lk_aload_n dX8_boatOfBest_19 rfl rfl ?_
        refine lk_getO (f := 13) (o' := 18) dX8_boatOfBest_20 rfl fX8_64 (by decide) (by decide) rfl ?_
        refine lk_iload_n dX8_boatOfBest_23 rfl rfl ?_
        refine lk_iload dX8_boatOfBest_24 rfl ?_
        refine lk_callV (o := 18) (as := [lk_vi (nI (m)), lk_vi (nI (e))]) (S := []) dX8_boatOfBest_26 rfl vX7_isFromBelow rfl lX8_261 rfl rfl (Nat.le_of_ble_eq_true rfl) (tX7_isFromBelow l X d σ τ (m := (m)) (i := (e)) (N := N) (a := A) (g := g) (b := m) (s := s) (hW := hw) (hN := hN12) (hm := hm) (hi := by omega)) ?_
        refine lk_k3 ?_
        refine lk_cast (pc' := 29) (S' := [lk_vi (if (m) / 2 ^ (N - 1 - (e)) % 2 = 0 then 1 else 0)]) rfl rfl rfl ?_
        refine lk_if_eqB (tgt := 35) dX8_boatOfBest_29 (by decide) (fun hh3 => ?_) (fun hh3 => ?_)
        ·
          refine lk_iincN (a := e) (m := 1) (L' := [(0, lk_vr 0 0), (1, lk_vi (nI (i))), (2, lk_vi (nI (m))), (3, lk_vi (nI (c))), (4, lk_vi (nI (e + 1)))]) dX8_boatOfBest_35 rfl rfl (by decide +kernel) rfl ?_
          refine lk_goto (tgt := 13) dX8_boatOfBest_38 (by decide) ?_
          refine ih (e + 1) _ (by omega) ?_ (by omega)
          rw [lk_cz]
          first
            | (rw [if_pos (by assumption)]; omega)
            | (rw [if_neg (by assumption)]; omega)
        ·
          refine lk_iincN (a := c) (m := 1) (L' := [(0, lk_vr 0 0), (1, lk_vi (nI (i))), (2, lk_vi (nI (m))), (3, lk_vi (nI (c + 1))), (4, lk_vi (nI (e)))]) dX8_boatOfBest_32 rfl rfl (by decide +kernel) rfl ?_
          refine lk_iincN (a := e) (m := 1) (L' := [(0, lk_vr 0 0), (1, lk_vi (nI (i))), (2, lk_vi (nI (m))), (3, lk_vi (nI (c + 1))), (4, lk_vi (nI (e + 1)))]) dX8_boatOfBest_35 rfl rfl (by decide +kernel) rfl ?_
          refine lk_goto (tgt := 13) dX8_boatOfBest_38 (by decide) ?_
          refine ih (e + 1) _ (by omega) ?_ (by omega)
          rw [lk_cz]
          first
            | (rw [if_pos (by assumption)]; omega)
            | (rw [if_neg (by assumption)]; omega)
  exact LP13 (i + 1) 0 0 (by omega) rfl (by omega)

set_option maxHeartbeats 1000000 in
set_option maxRecDepth 100000 in
theorem tX8_orders_out (l : Launch) (X : lk_G) (d : Nat) (σ : lk_N) (τ : lk_T) (k : Int32) (hk : k < 0 ∨ σ 2 0 0 ≤ k) : lk_Mt l X mX8_orders (d + 6) [lk_vr 0 0, lk_vi (k)] σ τ (fun rr σ1 τ1 => rr = some (lk_vi (-1)) ∧ σ1 = σ ∧ τ1 = τ) := by
  refine lk_met (L := [(0, lk_vr 0 0), (1, lk_vi (k))]) (by decide +kernel) (Nat.le_of_ble_eq_true rfl) rfl ?_
  obtain ⟨Q, hQ⟩ : ∃ Q : lk_Q, Q = fun rr σ1 τ1 => rr = some (lk_vi (-1)) ∧ σ1 = σ ∧ τ1 = τ := ⟨_, rfl⟩
  rw [← hQ]
  refine lk_aload_n dX8_orders_0 rfl rfl ?_
  refine lk_getO (f := 0) (o' := 2) dX8_orders_1 rfl fX8_14 (by decide) (by decide) rfl ?_
  refine lk_iload_n dX8_orders_4 rfl rfl ?_
  refine lk_callV (o := 2) (as := [lk_vi (k)]) (S := []) dX8_orders_5 rfl vX0_hasLock rfl lX8_79 rfl rfl (Nat.le_of_ble_eq_true rfl) (tX0_hasLock_out l X (d + 5) σ τ (c := 2) (k := (k)) (hc := rfl) (hk := hk)) ?_
  refine lk_k3 ?_
  refine lk_cast (pc' := 8) (S' := [lk_vi 0]) rfl rfl rfl ?_
  refine lk_if_ne (tgt := 13) dX8_orders_8 (by decide) (fun hh1 => absurd hh1 (by decide)) (fun hh1 => ?_)
  refine lk_iconst (v := (-1)) dX8_orders_11 (by decide) ?_
  refine lk_iret .int dX8_orders_12 rfl rfl ?_
  rw [hQ]
  exact ⟨by first | rfl | (simp [*]; done) | (simp_all; done) | grind, by first | rfl | (simp [*]; done), rfl⟩

set_option maxHeartbeats 1000000 in
set_option maxRecDepth 100000 in
theorem tX8_orders_ok (l : Launch) (X : lk_G) (d : Nat) (σ : lk_N) (τ : lk_T) (n : Nat) (hV : lk_cok (σ 2) n) (k : Nat) (hk : k < n) (nf : Nat) (hn : σ 11 5 0 = nI nf) (hn12 : nf ≤ 12) (h01 : ∀ k, k < 6 → σ 2 5 k = 0 ∨ σ 2 5 k = 1) (hz : ∀ b, b < nf → 0 ≤ (σ 11 1 b).toInt ∧ (σ 11 1 b).toInt ≤ 9) (A B N : Nat) (hA : A = min (lk_qa (σ 11) nf k).1 6) (hB : B = min (lk_qb (σ 11) nf k).1 6) (hN : N = A + B) : lk_Mt l X mX8_orders (d + 6) [lk_vr 0 0, lk_vi (nI (k))] σ τ (fun rr σ1 τ1 => rr = some (lk_vi (nI (lk_wvo (σ 11 1) (lk_qb (σ 11) nf k).2 (lk_qa (σ 11) nf k).2 k N A (σ 2) (2 ^ N)).1)) ∧ τ1 = τ ∧ ∃ W : lk_N, σ1 = W ∧ lk_fr σ W) := by
  refine lk_met (L := [(0, lk_vr 0 0), (1, lk_vi (nI (k)))]) (by decide +kernel) (Nat.le_of_ble_eq_true rfl) rfl ?_
  obtain ⟨Q, hQ⟩ : ∃ Q : lk_Q, Q = fun rr σ1 τ1 => rr = some (lk_vi (nI (lk_wvo (σ 11 1) (lk_qb (σ 11) nf k).2 (lk_qa (σ 11) nf k).2 k N A (σ 2) (2 ^ N)).1)) ∧ τ1 = τ ∧ ∃ W : lk_N, σ1 = W ∧ lk_fr σ W := ⟨_, rfl⟩
  rw [← hQ]
  have hk6 : k < 6 := Nat.lt_of_lt_of_le hk hV.2.2.1
  refine lk_aload_n dX8_orders_0 rfl rfl ?_
  refine lk_getO (f := 0) (o' := 2) dX8_orders_1 rfl fX8_14 (by decide) (by decide) rfl ?_
  refine lk_iload_n dX8_orders_4 rfl rfl ?_
  refine lk_callV (o := 2) (as := [lk_vi (nI (k))]) (S := []) dX8_orders_5 rfl vX0_hasLock rfl lX8_79 rfl rfl (Nat.le_of_ble_eq_true rfl) (tX0_hasLock_in l X (d + 5) σ τ (c := 2) (k := (k)) (hc := rfl) (n := n) (hn := hV.1) (hk := hk) (hn6 := hV.2.2.1)) ?_
  refine lk_k3 ?_
  refine lk_cast (pc' := 8) (S' := [lk_vi 1]) rfl rfl rfl ?_
  refine lk_if_ne (tgt := 13) dX8_orders_8 (by decide) (fun hh1 => ?_) (fun hh1 => absurd hh1 (by decide))
  refine lk_aload_n dX8_orders_13 rfl rfl ?_
  refine lk_iload_n dX8_orders_14 rfl rfl ?_
  refine lk_callV (o := 0) (as := [lk_vi (nI (k))]) (S := []) dX8_orders_15 rfl vX8_weaveOrders rfl lX8_235 rfl rfl (Nat.le_of_ble_eq_true rfl) (tX8_weaveOrders l X d σ τ (k := (k)) (n := n) (hV := hV) (hk := hk) (nf := nf) (hn := hn) (hn12 := hn12) (h01 := h01) (hz := hz) (A := A) (B := B) (N := N) (hA := hA) (hB := hB) (hN := hN)) ?_
  refine lk_k4 (F := fun W => W) (fun W hW => ?_)
  rw [lk_wvo_c hk6 (lk_eqr_im (σ 2) (σ 8))] at hW
  refine lk_cast (pc' := 18) (S' := []) rfl rfl rfl ?_
  refine lk_aload_n dX8_orders_18 rfl rfl ?_
  refine lk_getO (f := 13) (o' := 18) dX8_orders_19 rfl fX8_64 (by decide) (by decide) rfl ?_
  refine lk_getIv (v := (nI ((lk_wvo (σ 11 1) (lk_qb (σ 11) nf k).2 (lk_qa (σ 11) nf k).2 k N A (σ 2) (2 ^ N)).1))) (f := 2) dX8_orders_22 rfl fX8_238 (by decide) (by decide) (by rw [hW.2.2.2]; rfl) ?_
  refine lk_iret .int dX8_orders_25 rfl rfl ?_
  rw [hQ]
  exact ⟨rfl, rfl, W, rfl, hW.1⟩

set_option maxHeartbeats 1000000 in
set_option maxRecDepth 100000 in
theorem tX8_best_out (l : Launch) (X : lk_G) (d : Nat) (σ : lk_N) (τ : lk_T) (k : Int32) (hk : k < 0 ∨ σ 2 0 0 ≤ k) (i : Int32) : lk_Mt l X mX8_best (d + 6) [lk_vr 0 0, lk_vi (k), lk_vi (i)] σ τ (fun rr σ1 τ1 => rr = some (lk_vi (-2000000)) ∧ σ1 = σ ∧ τ1 = τ) := by
  refine lk_met (L := [(0, lk_vr 0 0), (1, lk_vi (k)), (2, lk_vi (i))]) (by decide +kernel) (Nat.le_of_ble_eq_true rfl) rfl ?_
  obtain ⟨Q, hQ⟩ : ∃ Q : lk_Q, Q = fun rr σ1 τ1 => rr = some (lk_vi (-2000000)) ∧ σ1 = σ ∧ τ1 = τ := ⟨_, rfl⟩
  rw [← hQ]
  refine lk_aload_n dX8_best_0 rfl rfl ?_
  refine lk_getO (f := 0) (o' := 2) dX8_best_1 rfl fX8_14 (by decide) (by decide) rfl ?_
  refine lk_iload_n dX8_best_4 rfl rfl ?_
  refine lk_callV (o := 2) (as := [lk_vi (k)]) (S := []) dX8_best_5 rfl vX0_hasLock rfl lX8_79 rfl rfl (Nat.le_of_ble_eq_true rfl) (tX0_hasLock_out l X (d + 5) σ τ (c := 2) (k := (k)) (hc := rfl) (hk := hk)) ?_
  refine lk_k3 ?_
  refine lk_cast (pc' := 8) (S' := [lk_vi 0]) rfl rfl rfl ?_
  refine lk_if_eq (tgt := 16) dX8_best_8 (by decide) (fun hh1 => ?_) (fun hh1 => absurd hh1 (by decide))
  refine lk_ldc dX8_best_16 kX8_186 ?_
  refine lk_iret .int dX8_best_18 rfl rfl ?_
  rw [hQ]
  exact ⟨by first | rfl | (simp [*]; done) | (simp_all; done) | grind, by first | rfl | (simp [*]; done), rfl⟩

set_option maxHeartbeats 1000000 in
set_option maxRecDepth 100000 in
theorem tX8_best_low (l : Launch) (X : lk_G) (d : Nat) (σ : lk_N) (τ : lk_T) (n : Nat) (hV : lk_cok (σ 2) n) (k : Nat) (hk : k < n) (i : Int32) (h : i < -1) : lk_Mt l X mX8_best (d + 6) [lk_vr 0 0, lk_vi (nI (k)), lk_vi (i)] σ τ (fun rr σ1 τ1 => rr = some (lk_vi (-2000000)) ∧ σ1 = σ ∧ τ1 = τ) := by
  refine lk_met (L := [(0, lk_vr 0 0), (1, lk_vi (nI (k))), (2, lk_vi (i))]) (by decide +kernel) (Nat.le_of_ble_eq_true rfl) rfl ?_
  obtain ⟨Q, hQ⟩ : ∃ Q : lk_Q, Q = fun rr σ1 τ1 => rr = some (lk_vi (-2000000)) ∧ σ1 = σ ∧ τ1 = τ := ⟨_, rfl⟩
  rw [← hQ]
  refine lk_aload_n dX8_best_0 rfl rfl ?_
  refine lk_getO (f := 0) (o' := 2) dX8_best_1 rfl fX8_14 (by decide) (by decide) rfl ?_
  refine lk_iload_n dX8_best_4 rfl rfl ?_
  refine lk_callV (o := 2) (as := [lk_vi (nI (k))]) (S := []) dX8_best_5 rfl vX0_hasLock rfl lX8_79 rfl rfl (Nat.le_of_ble_eq_true rfl) (tX0_hasLock_in l X (d + 5) σ τ (c := 2) (k := (k)) (hc := rfl) (n := n) (hn := hV.1) (hk := hk) (hn6 := hV.2.2.1)) ?_
  refine lk_k3 ?_
  refine lk_cast (pc' := 8) (S' := [lk_vi 1]) rfl rfl rfl ?_
  refine lk_if_eq (tgt := 16) dX8_best_8 (by decide) (fun hh1 => absurd hh1 (by decide)) (fun hh1 => ?_)
  refine lk_iload_n dX8_best_11 rfl rfl ?_
  refine lk_iconst (v := (-1)) dX8_best_12 (by decide) ?_
  refine lk_icmp_ge (tgt := 19) dX8_best_13 (by decide) (fun hh2 => absurd hh2 (fun q => absurd h (Int32.not_lt.mpr q))) (fun hh2 => ?_)
  refine lk_ldc dX8_best_16 kX8_186 ?_
  refine lk_iret .int dX8_best_18 rfl rfl ?_
  rw [hQ]
  exact ⟨by first | rfl | (simp [*]; done) | (simp_all; done) | grind, by first | rfl | (simp [*]; done), rfl⟩

set_option maxHeartbeats 1000000 in
set_option maxRecDepth 100000 in
theorem tX8_best_m1 (l : Launch) (X : lk_G) (d : Nat) (σ : lk_N) (τ : lk_T) (n : Nat) (hV : lk_cok (σ 2) n) (k : Nat) (hk : k < n) (nf : Nat) (hn : σ 11 5 0 = nI nf) (hn12 : nf ≤ 12) (h01 : ∀ k, k < 6 → σ 2 5 k = 0 ∨ σ 2 5 k = 1) (hz : ∀ b, b < nf → 0 ≤ (σ 11 1 b).toInt ∧ (σ 11 1 b).toInt ≤ 9) (A B N : Nat) (hA : A = min (lk_qa (σ 11) nf k).1 6) (hB : B = min (lk_qb (σ 11) nf k).1 6) (hN : N = A + B) : lk_Mt l X mX8_best (d + 6) [lk_vr 0 0, lk_vi (nI (k)), lk_vi (-1)] σ τ (fun rr σ1 τ1 => rr = some (lk_vi (if (lk_wvo (σ 11 1) (lk_qb (σ 11) nf k).2 (lk_qa (σ 11) nf k).2 k N A (σ 2) (2 ^ N)).1 = 0 then -2000001 else (lk_wvo (σ 11 1) (lk_qb (σ 11) nf k).2 (lk_qa (σ 11) nf k).2 k N A (σ 2) (2 ^ N)).2.1)) ∧ τ1 = τ ∧ ∃ W : lk_N, σ1 = W ∧ lk_fr σ W) := by
  refine lk_met (L := [(0, lk_vr 0 0), (1, lk_vi (nI (k))), (2, lk_vi (-1))]) (by decide +kernel) (Nat.le_of_ble_eq_true rfl) rfl ?_
  obtain ⟨Q, hQ⟩ : ∃ Q : lk_Q, Q = fun rr σ1 τ1 => rr = some (lk_vi (if (lk_wvo (σ 11 1) (lk_qb (σ 11) nf k).2 (lk_qa (σ 11) nf k).2 k N A (σ 2) (2 ^ N)).1 = 0 then -2000001 else (lk_wvo (σ 11 1) (lk_qb (σ 11) nf k).2 (lk_qa (σ 11) nf k).2 k N A (σ 2) (2 ^ N)).2.1)) ∧ τ1 = τ ∧ ∃ W : lk_N, σ1 = W ∧ lk_fr σ W := ⟨_, rfl⟩
  rw [← hQ]
  have hk6 : k < 6 := Nat.lt_of_lt_of_le hk hV.2.2.1
  have h4 : (2 : Nat) ^ N ≤ 4096 := Nat.le_trans (Nat.pow_le_pow_right (n := 2) (by decide) (show N ≤ 12 by omega)) (show 2 ^ 12 ≤ 4096 by decide)
  have hg4 := lk_wvo_le (σ 11 1) (lk_qb (σ 11) nf k).2 (lk_qa (σ 11) nf k).2 k N A (σ 2) (2 ^ N)
  refine lk_aload_n dX8_best_0 rfl rfl ?_
  refine lk_getO (f := 0) (o' := 2) dX8_best_1 rfl fX8_14 (by decide) (by decide) rfl ?_
  refine lk_iload_n dX8_best_4 rfl rfl ?_
  refine lk_callV (o := 2) (as := [lk_vi (nI (k))]) (S := []) dX8_best_5 rfl vX0_hasLock rfl lX8_79 rfl rfl (Nat.le_of_ble_eq_true rfl) (tX0_hasLock_in l X (d + 5) σ τ (c := 2) (k := (k)) (hc := rfl) (n := n) (hn := hV.1) (hk := hk) (hn6 := hV.2.2.1)) ?_
  refine lk_k3 ?_
  refine lk_cast (pc' := 8) (S' := [lk_vi 1]) rfl rfl rfl ?_
  refine lk_if_eq (tgt := 16) dX8_best_8 (by decide) (fun hh1 => absurd hh1 (by decide)) (fun hh1 => ?_)
  refine lk_iload_n dX8_best_11 rfl rfl ?_
  refine lk_iconst (v := (-1)) dX8_best_12 (by decide) ?_
  refine lk_icmp_ge (tgt := 19) dX8_best_13 (by decide) (fun hh2 => ?_) (fun hh2 => absurd hh2 (by decide))
  refine lk_aload_n dX8_best_19 rfl rfl ?_
  refine lk_iload_n dX8_best_20 rfl rfl ?_
  refine lk_callV (o := 0) (as := [lk_vi (nI (k))]) (S := []) dX8_best_21 rfl vX8_weaveOrders rfl lX8_235 rfl rfl (Nat.le_of_ble_eq_true rfl) (tX8_weaveOrders l X d σ τ (k := (k)) (n := n) (hV := hV) (hk := hk) (nf := nf) (hn := hn) (hn12 := hn12) (h01 := h01) (hz := hz) (A := A) (B := B) (N := N) (hA := hA) (hB := hB) (hN := hN)) ?_
  refine lk_k4 (F := fun W => W) (fun W hW => ?_)
  rw [lk_wvo_c hk6 (lk_eqr_im (σ 2) (σ 8))] at hW
  refine lk_cast (pc' := 24) (S' := []) rfl rfl rfl ?_
  refine lk_aload_n dX8_best_24 rfl rfl ?_
  refine lk_getO (f := 13) (o' := 18) dX8_best_25 rfl fX8_64 (by decide) (by decide) rfl ?_
  refine lk_getIv (v := (nI ((lk_wvo (σ 11 1) (lk_qb (σ 11) nf k).2 (lk_qa (σ 11) nf k).2 k N A (σ 2) (2 ^ N)).1))) (f := 2) dX8_best_28 rfl fX8_238 (by decide) (by decide) (by rw [hW.2.2.2]; rfl) ?_
  refine lk_if_eqN (a := (lk_wvo (σ 11 1) (lk_qb (σ 11) nf k).2 (lk_qa (σ 11) nf k).2 k N A (σ 2) (2 ^ N)).1) (tgt := 45) dX8_best_31 (by decide) (by omega) (fun hh3 => ?_) (fun hh3 => ?_)
  ·
    refine lk_ldc dX8_best_45 kX8_194 ?_
    refine lk_iret .int dX8_best_47 rfl rfl ?_
    rw [hQ]
    first | (rw [if_pos (by assumption)]; exact ⟨rfl, rfl, W, rfl, hW.1⟩) | (rw [if_neg (by assumption)]; exact ⟨rfl, rfl, W, rfl, hW.1⟩)
  ·
    refine lk_iload_n dX8_best_34 rfl rfl ?_
    refine lk_aload_n dX8_best_35 rfl rfl ?_
    refine lk_getO (f := 13) (o' := 18) dX8_best_36 rfl fX8_64 (by decide) (by decide) rfl ?_
    refine lk_getIv (v := (nI (N))) (f := 0) dX8_best_39 rfl fX8_245 (by decide) (by decide) (by rw [hW.2.2.2]; rfl) ?_
    refine lk_icmp_lt (tgt := 48) dX8_best_42 (by decide) (fun hh4 => ?_) (fun hh4 => absurd hh4 (fun q => q (Int32.lt_of_lt_of_le (by decide) (nI_pos' (by omega)))))
    refine lk_iload_n dX8_best_48 rfl rfl ?_
    refine lk_iconst (v := (-1)) dX8_best_49 (by decide) ?_
    refine lk_icmp_ne (tgt := 63) dX8_best_50 (by decide) (fun hh5 => absurd hh5 (by decide)) (fun hh5 => ?_)
    refine lk_aload_n dX8_best_53 rfl rfl ?_
    refine lk_getO (f := 13) (o' := 18) dX8_best_54 rfl fX8_64 (by decide) (by decide) rfl ?_
    refine lk_getIv (v := ((lk_wvo (σ 11 1) (lk_qb (σ 11) nf k).2 (lk_qa (σ 11) nf k).2 k N A (σ 2) (2 ^ N)).2.1)) (f := 3) dX8_best_57 rfl fX8_267 (by decide) (by decide) (by rw [hW.2.2.2]; rfl) ?_
    refine lk_goto (tgt := 68) dX8_best_60 (by decide) ?_
    refine lk_iret .int dX8_best_68 rfl rfl ?_
    rw [hQ]
    first | (rw [if_pos (by assumption)]; exact ⟨rfl, rfl, W, rfl, hW.1⟩) | (rw [if_neg (by assumption)]; exact ⟨rfl, rfl, W, rfl, hW.1⟩)

set_option maxHeartbeats 1000000 in
set_option maxRecDepth 100000 in
theorem tX8_best_i (l : Launch) (X : lk_G) (d : Nat) (σ : lk_N) (τ : lk_T) (n : Nat) (hV : lk_cok (σ 2) n) (k : Nat) (hk : k < n) (nf : Nat) (hn : σ 11 5 0 = nI nf) (hn12 : nf ≤ 12) (h01 : ∀ k, k < 6 → σ 2 5 k = 0 ∨ σ 2 5 k = 1) (hz : ∀ b, b < nf → 0 ≤ (σ 11 1 b).toInt ∧ (σ 11 1 b).toInt ≤ 9) (A B N : Nat) (hA : A = min (lk_qa (σ 11) nf k).1 6) (hB : B = min (lk_qb (σ 11) nf k).1 6) (hN : N = A + B) (i : Nat) (h31 : i < 2147483648) : lk_Mt l X mX8_best (d + 6) [lk_vr 0 0, lk_vi (nI (k)), lk_vi (nI (i))] σ τ (fun rr σ1 τ1 => rr = some (lk_vi (if (lk_wvo (σ 11 1) (lk_qb (σ 11) nf k).2 (lk_qa (σ 11) nf k).2 k N A (σ 2) (2 ^ N)).1 = 0 ∨ N ≤ i then -2000001 else nI (lk_bob (lk_qb (σ 11) nf k).2 (lk_qa (σ 11) nf k).2 N (lk_wvo (σ 11 1) (lk_qb (σ 11) nf k).2 (lk_qa (σ 11) nf k).2 k N A (σ 2) (2 ^ N)).2.2 i))) ∧ τ1 = τ ∧ ∃ W : lk_N, σ1 = W ∧ lk_fr σ W) := by
  refine lk_met (L := [(0, lk_vr 0 0), (1, lk_vi (nI (k))), (2, lk_vi (nI (i)))]) (by decide +kernel) (Nat.le_of_ble_eq_true rfl) rfl ?_
  obtain ⟨Q, hQ⟩ : ∃ Q : lk_Q, Q = fun rr σ1 τ1 => rr = some (lk_vi (if (lk_wvo (σ 11 1) (lk_qb (σ 11) nf k).2 (lk_qa (σ 11) nf k).2 k N A (σ 2) (2 ^ N)).1 = 0 ∨ N ≤ i then -2000001 else nI (lk_bob (lk_qb (σ 11) nf k).2 (lk_qa (σ 11) nf k).2 N (lk_wvo (σ 11 1) (lk_qb (σ 11) nf k).2 (lk_qa (σ 11) nf k).2 k N A (σ 2) (2 ^ N)).2.2 i))) ∧ τ1 = τ ∧ ∃ W : lk_N, σ1 = W ∧ lk_fr σ W := ⟨_, rfl⟩
  rw [← hQ]
  have hk6 : k < 6 := Nat.lt_of_lt_of_le hk hV.2.2.1
  have h4 : (2 : Nat) ^ N ≤ 4096 := Nat.le_trans (Nat.pow_le_pow_right (n := 2) (by decide) (show N ≤ 12 by omega)) (show 2 ^ 12 ≤ 4096 by decide)
  have hg4 := lk_wvo_le (σ 11 1) (lk_qb (σ 11) nf k).2 (lk_qa (σ 11) nf k).2 k N A (σ 2) (2 ^ N)
  refine lk_aload_n dX8_best_0 rfl rfl ?_
  refine lk_getO (f := 0) (o' := 2) dX8_best_1 rfl fX8_14 (by decide) (by decide) rfl ?_
  refine lk_iload_n dX8_best_4 rfl rfl ?_
  refine lk_callV (o := 2) (as := [lk_vi (nI (k))]) (S := []) dX8_best_5 rfl vX0_hasLock rfl lX8_79 rfl rfl (Nat.le_of_ble_eq_true rfl) (tX0_hasLock_in l X (d + 5) σ τ (c := 2) (k := (k)) (hc := rfl) (n := n) (hn := hV.1) (hk := hk) (hn6 := hV.2.2.1)) ?_
  refine lk_k3 ?_
  refine lk_cast (pc' := 8) (S' := [lk_vi 1]) rfl rfl rfl ?_
  refine lk_if_eq (tgt := 16) dX8_best_8 (by decide) (fun hh1 => absurd hh1 (by decide)) (fun hh1 => ?_)
  refine lk_iload_n dX8_best_11 rfl rfl ?_
  refine lk_iconst (v := (-1)) dX8_best_12 (by decide) ?_
  refine lk_icmp_ge (tgt := 19) dX8_best_13 (by decide) (fun hh2 => ?_) (fun hh2 => absurd hh2 (fun q => q (Int32.le_trans (by decide) (nI_pos' (by omega)))))
  refine lk_aload_n dX8_best_19 rfl rfl ?_
  refine lk_iload_n dX8_best_20 rfl rfl ?_
  refine lk_callV (o := 0) (as := [lk_vi (nI (k))]) (S := []) dX8_best_21 rfl vX8_weaveOrders rfl lX8_235 rfl rfl (Nat.le_of_ble_eq_true rfl) (tX8_weaveOrders l X d σ τ (k := (k)) (n := n) (hV := hV) (hk := hk) (nf := nf) (hn := hn) (hn12 := hn12) (h01 := h01) (hz := hz) (A := A) (B := B) (N := N) (hA := hA) (hB := hB) (hN := hN)) ?_
  refine lk_k4 (F := fun W => W) (fun W hW => ?_)
  rw [lk_wvo_c hk6 (lk_eqr_im (σ 2) (σ 8))] at hW
  refine lk_cast (pc' := 24) (S' := []) rfl rfl rfl ?_
  refine lk_aload_n dX8_best_24 rfl rfl ?_
  refine lk_getO (f := 13) (o' := 18) dX8_best_25 rfl fX8_64 (by decide) (by decide) rfl ?_
  refine lk_getIv (v := (nI ((lk_wvo (σ 11 1) (lk_qb (σ 11) nf k).2 (lk_qa (σ 11) nf k).2 k N A (σ 2) (2 ^ N)).1))) (f := 2) dX8_best_28 rfl fX8_238 (by decide) (by decide) (by rw [hW.2.2.2]; rfl) ?_
  refine lk_if_eqN (a := (lk_wvo (σ 11 1) (lk_qb (σ 11) nf k).2 (lk_qa (σ 11) nf k).2 k N A (σ 2) (2 ^ N)).1) (tgt := 45) dX8_best_31 (by decide) (by omega) (fun hh3 => ?_) (fun hh3 => ?_)
  ·
    refine lk_ldc dX8_best_45 kX8_194 ?_
    refine lk_iret .int dX8_best_47 rfl rfl ?_
    rw [hQ]
    first | (rw [if_pos (Or.inl (by assumption))]; exact ⟨rfl, rfl, W, rfl, hW.1⟩) | (rw [if_pos (Or.inr (by omega))]; exact ⟨rfl, rfl, W, rfl, hW.1⟩) | (rw [if_neg (by rintro (z | z) <;> first | contradiction | omega)]; exact ⟨rfl, rfl, W, rfl, hW.1⟩)
  ·
    refine lk_iload_n dX8_best_34 rfl rfl ?_
    refine lk_aload_n dX8_best_35 rfl rfl ?_
    refine lk_getO (f := 13) (o' := 18) dX8_best_36 rfl fX8_64 (by decide) (by decide) rfl ?_
    refine lk_getIv (v := (nI (N))) (f := 0) dX8_best_39 rfl fX8_245 (by decide) (by decide) (by rw [hW.2.2.2]; rfl) ?_
    refine lk_icmp_ltN (a := i) (b := N) (tgt := 48) dX8_best_42 (by decide) (by omega) (by omega) (fun hh4 => ?_) (fun hh4 => ?_)
    ·
      refine lk_iload_n dX8_best_48 rfl rfl ?_
      refine lk_iconst (v := (-1)) dX8_best_49 (by decide) ?_
      refine lk_icmp_ne (tgt := 63) dX8_best_50 (by decide) (fun hh5 => ?_) (fun hh5 => absurd hh5 (fun q => absurd (nI_pos' (n := i) (by omega)) (by rw [q]; decide)))
      refine lk_aload_n dX8_best_63 rfl rfl ?_
      refine lk_iload_n dX8_best_64 rfl rfl ?_
      refine lk_callV (o := 0) (as := [lk_vi (nI (i))]) (S := []) dX8_best_65 rfl vX8_boatOfBest rfl lX8_270 rfl rfl (Nat.le_of_ble_eq_true rfl) (tX8_boatOfBest l X (d + 4) W τ (i := (i)) (N := N) (A := A) (B := B) (g := (lk_wvo (σ 11 1) (lk_qb (σ 11) nf k).2 (lk_qa (σ 11) nf k).2 k N A (σ 2) (2 ^ N)).1) (m := (lk_wvo (σ 11 1) (lk_qb (σ 11) nf k).2 (lk_qa (σ 11) nf k).2 k N A (σ 2) (2 ^ N)).2.2) (s := (lk_wvo (σ 11 1) (lk_qb (σ 11) nf k).2 (lk_qa (σ 11) nf k).2 k N A (σ 2) (2 ^ N)).2.1) (hw := hW.2.2.2) (hN12 := by omega) (hm := (lk_wvo_b _ _ _ _ _ _ _ _ (by assumption)).1) (hon := (lk_wvo_b _ _ _ _ _ _ _ _ (by assumption)).2) (hi := by omega) (hN := hN) (cb := (lk_qb (σ 11) nf k).1) (ca := (lk_qa (σ 11) nf k).1) (qb := (lk_qb (σ 11) nf k).2) (qa := (lk_qa (σ 11) nf k).2) (hgb := hW.2.1.1) (hha := hW.2.2.1.1) (hqb := hW.2.1.2) (hqa := hW.2.2.1.2) (hcb := Nat.le_trans (Nat.le_trans (lk_gat_le (σ 11) (nI k) 1 nf) hn12) (by decide)) (hca := Nat.le_trans (Nat.le_trans (lk_gat_le (σ 11) (nI (k + 1)) 0 nf) hn12) (by decide)) (hB := by omega) (hA := by omega)) ?_
      refine lk_k3 ?_
      refine lk_cast (pc' := 68) (S' := [lk_vi (nI (lk_bob (lk_qb (σ 11) nf k).2 (lk_qa (σ 11) nf k).2 N (lk_wvo (σ 11 1) (lk_qb (σ 11) nf k).2 (lk_qa (σ 11) nf k).2 k N A (σ 2) (2 ^ N)).2.2 i))]) rfl rfl rfl ?_
      refine lk_iret .int dX8_best_68 rfl rfl ?_
      rw [hQ]
      first | (rw [if_pos (Or.inl (by assumption))]; exact ⟨rfl, rfl, W, rfl, hW.1⟩) | (rw [if_pos (Or.inr (by omega))]; exact ⟨rfl, rfl, W, rfl, hW.1⟩) | (rw [if_neg (by rintro (z | z) <;> first | contradiction | omega)]; exact ⟨rfl, rfl, W, rfl, hW.1⟩)
    ·
      refine lk_ldc dX8_best_45 kX8_194 ?_
      refine lk_iret .int dX8_best_47 rfl rfl ?_
      rw [hQ]
      first | (rw [if_pos (Or.inl (by assumption))]; exact ⟨rfl, rfl, W, rfl, hW.1⟩) | (rw [if_pos (Or.inr (by omega))]; exact ⟨rfl, rfl, W, rfl, hW.1⟩) | (rw [if_neg (by rintro (z | z) <;> first | contradiction | omega)]; exact ⟨rfl, rfl, W, rfl, hW.1⟩)
