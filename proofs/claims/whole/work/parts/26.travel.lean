/-- a canal's numbers and its tally -/
abbrev lk_s2 (σ : lk_N) (c : Nat) (V T : lk_O) : lk_N := lk_so (lk_so σ c V) (c + 1) T
theorem tX0_passage_ok (l : Launch) (X : lk_G) (d : Nat) (σ : lk_N) (τ : lk_T) (c : Nat) (hc : lk_ko c = 0) (n k : Nat) (z : Int32) (hV : lk_cok (σ c) n) (hk : k < n) (b : Bool) (V : lk_O) (h : lk_pas (σ c) k b z = .inl V) : lk_Mt l X mX0_passage (d + 2) [lk_vr c 0, lk_vi (nI k), lk_vi (if b = true then 1 else 0), lk_vi z] σ τ (fun rr σ1 τ1 => rr = some (lk_vi (σ c 6 (k + 1) - V 6 (k + 1))) ∧ σ1 = lk_s2 σ c V (lk_tad (σ (c + 1)) (σ c 6 (k + 1) - V 6 (k + 1))) ∧ τ1 = τ) := by
  cases b with
  | true => have h2 := tX0_passage_up l X d σ τ c hc n k z hV hk; rw [h] at h2; exact h2
  | false => have h2 := tX0_passage_dn l X d σ τ c hc n k z hV hk; rw [h] at h2; exact h2
theorem tX0_passage_no (l : Launch) (X : lk_G) (d : Nat) (σ : lk_N) (τ : lk_T) (c : Nat) (hc : lk_ko c = 0) (n k : Nat) (z : Int32) (hV : lk_cok (σ c) n) (hk : k < n) (b : Bool) (q : Int32 × Nat × Int32) (h : lk_pas (σ c) k b z = .inr q) : lk_Mt l X mX0_passage (d + 2) [lk_vr c 0, lk_vi (nI k), lk_vi (if b = true then 1 else 0), lk_vi z] σ τ (fun rr σ1 τ1 => rr = some (lk_vi (-2000002)) ∧ σ1 = lk_so σ (c + 2) (lk_kau (σ (c + 2)) (nI k) q) ∧ τ1 = τ) := by
  cases b with
  | true => have h2 := tX0_passage_up l X d σ τ c hc n k z hV hk; rw [h] at h2; exact h2
  | false => have h2 := tX0_passage_dn l X d σ τ c hc n k z hV hk; rw [h] at h2; exact h2
theorem lk_s2_c (σ : lk_N) (c : Nat) (V T : lk_O) : lk_s2 σ c V T c = V := by rw [lk_s2, lk_so_ne (by omega), lk_so_eq]
theorem lk_s2_t (σ : lk_N) (c : Nat) (V T : lk_O) : lk_s2 σ c V T (c + 1) = T := lk_so_eq _ _ _
theorem lk_s2_ne {σ : lk_N} {c o : Nat} {V T : lk_O} (h : ¬ o = c) (h2 : ¬ o = c + 1) : lk_s2 σ c V T o = σ o := by rw [lk_s2, lk_so_ne h2, lk_so_ne h]
theorem lk_s2_self (σ : lk_N) (c : Nat) : lk_s2 σ c (σ c) (σ (c + 1)) = σ := by rw [lk_s2, lk_so_self, lk_so_self]
theorem lk_s2_s2 (σ : lk_N) (c : Nat) (V T V2 T2 : lk_O) : lk_s2 (lk_s2 σ c V T) c V2 T2 = lk_s2 σ c V2 T2 := by
  funext a
  simp only [lk_s2, lk_so]
  grind
theorem lk_ySb (σ : lk_N) (c k : Nat) (V T : lk_O) (q : Int32 × Nat × Int32) : lk_up (lk_so (lk_s2 σ c V T) (c + 2) (lk_kau ((lk_s2 σ c V T) (c + 2)) (nI k) q)) c 12 0 1 = lk_yS σ c (some (k, q), V, T) := by
  rw [lk_up_so, lk_s2_ne (by omega) (by omega), lk_so_ne (by omega), lk_s2_c]
  show _ = lk_so (lk_so (lk_so σ c (lk_ou V 12 0 1)) (c + 1) T) (c + 2) _
  funext a
  simp only [lk_s2, lk_so]
  grind
set_option maxHeartbeats 4000000 in
set_option maxRecDepth 100000 in
theorem tX0_lockFrom_up (l : Launch) (X : lk_G) (d : Nat) (σ : lk_N) (τ : lk_T) (r : Nat) : lk_Mt l X mX0_lockFrom d [lk_vi (nI (r)), lk_vi 1] σ τ (fun rr σ1 τ1 => rr = some (lk_vi (nI (r))) ∧ σ1 = σ ∧ τ1 = τ) := by
  refine lk_met (L := [(0, lk_vi (nI (r))), (1, lk_vi 1)]) (by decide +kernel) (Nat.le_of_ble_eq_true rfl) rfl ?_
  obtain ⟨Q, hQ⟩ : ∃ Q : lk_Q, Q = fun rr σ1 τ1 => rr = some (lk_vi (nI (r))) ∧ σ1 = σ ∧ τ1 = τ := ⟨_, rfl⟩
  rw [← hQ]
  refine lk_iload_n dX0_lockFrom_0 rfl rfl ?_
  refine lk_if_eq (tgt := 8) dX0_lockFrom_1 (by decide) (fun h1 => absurd h1 (by decide)) (fun h1 => ?_)
  refine lk_iload_n dX0_lockFrom_4 rfl rfl ?_
  refine lk_goto (tgt := 11) dX0_lockFrom_5 (by decide) ?_
  refine lk_iret .int dX0_lockFrom_11 rfl rfl ?_
  rw [hQ]
  exact ⟨by first | rfl | (simp [*]; done) | (simp_all; done) | grind, by first | rfl | (simp [*]; done), rfl⟩

set_option maxHeartbeats 4000000 in
set_option maxRecDepth 100000 in
theorem tX0_lockFrom_dn (l : Launch) (X : lk_G) (d : Nat) (σ : lk_N) (τ : lk_T) (r : Nat) : lk_Mt l X mX0_lockFrom d [lk_vi (nI (r)), lk_vi 0] σ τ (fun rr σ1 τ1 => rr = some (lk_vi (nI (r) - 1)) ∧ σ1 = σ ∧ τ1 = τ) := by
  refine lk_met (L := [(0, lk_vi (nI (r))), (1, lk_vi 0)]) (by decide +kernel) (Nat.le_of_ble_eq_true rfl) rfl ?_
  obtain ⟨Q, hQ⟩ : ∃ Q : lk_Q, Q = fun rr σ1 τ1 => rr = some (lk_vi (nI (r) - 1)) ∧ σ1 = σ ∧ τ1 = τ := ⟨_, rfl⟩
  rw [← hQ]
  refine lk_iload_n dX0_lockFrom_0 rfl rfl ?_
  refine lk_if_eq (tgt := 8) dX0_lockFrom_1 (by decide) (fun h1 => ?_) (fun h1 => absurd h1 (by decide))
  refine lk_iload_n dX0_lockFrom_8 rfl rfl ?_
  refine lk_iconst (v := 1) dX0_lockFrom_9 (by decide) ?_
  refine lk_isub dX0_lockFrom_10 ?_
  refine lk_iret .int dX0_lockFrom_11 rfl rfl ?_
  rw [hQ]
  exact ⟨by first | rfl | (simp [*]; done) | (simp_all; done) | grind, by first | rfl | (simp [*]; done), rfl⟩

set_option maxHeartbeats 4000000 in
set_option maxRecDepth 100000 in
theorem tX0_travel_up (l : Launch) (X : lk_G) (d : Nat) (σ : lk_N) (τ : lk_T) (c : Nat) (hc : lk_ko c = 0) (n a : Nat) (z : Int32) (hV : lk_cok (σ c) n) (ha : a ≤ n) (hz : 0 ≤ z.toInt) (hz9 : z.toInt ≤ 9) : lk_Mt l X mX0_travel (d + 3) [lk_vr c 0, lk_vi (nI (a)), lk_vi 1, lk_vi (z)] σ τ (fun rr σ1 τ1 => rr = some (lk_vi (nI ((lk_trv true z (lk_lks true a n) (σ c) (σ (c + 1))).1))) ∧ σ1 = lk_yS σ c (lk_trv true z (lk_lks true a n) (σ c) (σ (c + 1))).2 ∧ τ1 = τ) := by
  refine lk_met (L := [(0, lk_vr c 0), (1, lk_vi (nI (a))), (2, lk_vi 1), (3, lk_vi (z))]) (by decide +kernel) (Nat.le_of_ble_eq_true rfl) rfl ?_
  obtain ⟨Q, hQ⟩ : ∃ Q : lk_Q, Q = fun rr σ1 τ1 => rr = some (lk_vi (nI ((lk_trv true z (lk_lks true a n) (σ c) (σ (c + 1))).1))) ∧ σ1 = lk_yS σ c (lk_trv true z (lk_lks true a n) (σ c) (σ (c + 1))).2 ∧ τ1 = τ := ⟨_, rfl⟩
  rw [← hQ]
  refine lk_iconst (v := 0) dX0_travel_0 (by decide) ?_
  refine lk_istore (L' := [(0, lk_vr c 0), (1, lk_vi (nI (a))), (2, lk_vi 1), (3, lk_vi (z)), (4, lk_vi 0)]) dX0_travel_1 (by decide +kernel) rfl ?_
  refine lk_iload_n dX0_travel_3 rfl rfl ?_
  refine lk_iload_n dX0_travel_4 rfl rfl ?_
  refine lk_callS (as := [lk_vi (nI (a)), lk_vi 1]) (S := []) dX0_travel_5 rfl vX0_lockFrom rfl lX0_111 (Nat.le_of_ble_eq_true rfl) (tX0_lockFrom_up l X (d + 2) σ τ (r := (a)) ) ?_
  refine lk_k3 ?_
  refine lk_cast (pc' := 8) (S' := [lk_vi (nI ((a)))]) rfl rfl rfl ?_
  refine lk_istore (L' := [(0, lk_vr c 0), (1, lk_vi (nI (a))), (2, lk_vi 1), (3, lk_vi (z)), (4, lk_vi 0), (5, lk_vi (nI ((a))))]) dX0_travel_8 (by decide +kernel) rfl ?_
  have LP10 : ∀ (fu : Nat) (k i : Nat) (V T : lk_O), k ≤ n → i + (n - k) ≤ 6 → lk_cok V n → lk_trv true z (lk_lks true a n) (σ c) (σ (c + 1)) = ((lk_trv true z (List.range' k (n - k)) V T).1 + i, (lk_trv true z (List.range' k (n - k)) V T).2) → n - k < fu → lk_W l X mX0_travel (d + 3) 10 [(0, lk_vr c 0), (1, lk_vi (nI (a))), (2, lk_vi 1), (3, lk_vi (z)), (4, lk_vi (nI (i))), (5, lk_vi (nI (k)))] [] (lk_s2 σ c V T) τ Q := by
    intro fu
    induction fu with
    | zero => intro k i V T hk hi hW hI hfu; exact absurd hfu (by omega)
    | succ fu ih =>
      intro k i V T hk hi hW hI hfu
      have hn6 := hW.2.2.1
      refine lk_aload_n dX0_travel_10 rfl rfl ?_
      refine lk_iload dX0_travel_11 rfl ?_
      rcases Nat.lt_or_ge k n with hkn | hkn
      ·
        have er : List.range' k (n - k) = k :: List.range' (k + 1) (n - (k + 1)) := by rw [show n - k = (n - (k + 1)) + 1 by omega, List.range'_succ]
        rw [er] at hI
        refine lk_callV (o := c) (as := [lk_vi (nI (k))]) (S := []) dX0_travel_13 rfl vX0_hasLock rfl lX0_68 hc rfl (Nat.le_of_ble_eq_true rfl) (tX0_hasLock_in l X (d + 2) (lk_s2 σ c V T) τ (c := c) (k := (k)) (hc := hc) (n := n) (hn := by rw [lk_s2_c]; exact hW.1) (hk := hkn) (hn6 := hV.2.2.1)) ?_
        refine lk_k3 ?_
        refine lk_cast (pc' := 16) (S' := [lk_vi 1]) rfl rfl rfl ?_
        refine lk_if_eq (tgt := 67) dX0_travel_16 (by decide) (fun h1 => absurd h1 (by decide)) (fun h1 => ?_)
        refine lk_iload dX0_travel_19 rfl ?_
        refine lk_bipush (v := 6) dX0_travel_21 (by decide) ?_
        refine lk_icmp_geN (a := i) (b := 6) (tgt := 67) dX0_travel_23 (by decide) (by omega) (by omega) (fun h2 => absurd h2 (by omega)) (fun h2 => ?_)
        refine lk_aload_n dX0_travel_26 rfl rfl ?_
        refine lk_iload dX0_travel_27 rfl ?_
        refine lk_iload_n dX0_travel_29 rfl rfl ?_
        refine lk_iload_n dX0_travel_30 rfl rfl ?_
        rcases hp : lk_pas V k true z with V2 | q
        ·
          refine lk_callV (o := c) (as := [lk_vi (nI (k)), lk_vi 1, lk_vi (z)]) (S := []) dX0_travel_31 rfl vX0_passage rfl lX0_115 hc rfl (Nat.le_of_ble_eq_true rfl) (tX0_passage_ok l X d (lk_s2 σ c V T) τ (c := c) (k := (k)) (z := (z)) (b := true) (hc := hc) (n := n) (hV := by rw [lk_s2_c]; exact hW) (hk := hkn) (V := V2) (h := by rw [lk_s2_c]; exact hp)) ?_
          refine lk_k3 ?_
          refine lk_cast (pc' := 34) (S' := [lk_vi ((lk_s2 σ c V T) c 6 ((k) + 1) - V2 6 ((k) + 1))]) rfl rfl rfl ?_
          refine lk_ldc dX0_travel_34 kX0_76 ?_
          refine lk_icmp_ne (tgt := 47) dX0_travel_36 (by decide) (fun h3 => ?_) (fun h3 => absurd h3 (lk_sp_ne (by rw [lk_s2_c]; exact (lk_pas_ok hp (hW.2.2.2 k (Nat.lt_of_lt_of_le hkn hW.2.2.1)) hz hz9).2.2.1)))
          refine lk_iincN (a := i) (m := 1) (L' := [(0, lk_vr c 0), (1, lk_vi (nI (a))), (2, lk_vi 1), (3, lk_vi (z)), (4, lk_vi (nI (i + 1))), (5, lk_vi (nI (k)))]) dX0_travel_47 rfl rfl (by decide +kernel) rfl ?_
          refine lk_iload dX0_travel_50 rfl ?_
          refine lk_iload_n dX0_travel_52 rfl rfl ?_
          refine lk_if_eq (tgt := 60) dX0_travel_53 (by decide) (fun h4 => absurd h4 (by decide)) (fun h4 => ?_)
          refine lk_iconst (v := 1) dX0_travel_56 (by decide) ?_
          refine lk_goto (tgt := 61) dX0_travel_57 (by decide) ?_
          refine lk_iaddN (a := k) (b := 1) dX0_travel_61 ?_
          refine lk_istore (L' := [(0, lk_vr c 0), (1, lk_vi (nI (a))), (2, lk_vi 1), (3, lk_vi (z)), (4, lk_vi (nI (i + 1))), (5, lk_vi (nI (k + 1)))]) dX0_travel_62 (by decide +kernel) rfl ?_
          refine lk_goto (tgt := 10) dX0_travel_64 (by decide) ?_
          simp only [lk_trv, hp] at hI
          refine lk_sg (σ' := lk_s2 σ c V2 (lk_tad T (V 6 (k + 1) - V2 6 (k + 1)))) (by rw [lk_s2_s2, lk_s2_c, lk_s2_t]) ?_
          exact ih (k + 1) (i + 1) V2 (lk_tad T (V 6 (k + 1) - V2 6 (k + 1))) (by omega) (by omega) (lk_pas_cok hp hkn hW hz hz9) (by rw [hI]; congr 1; omega) (by omega)
        ·
          refine lk_callV (o := c) (as := [lk_vi (nI (k)), lk_vi 1, lk_vi (z)]) (S := []) dX0_travel_31 rfl vX0_passage rfl lX0_115 hc rfl (Nat.le_of_ble_eq_true rfl) (tX0_passage_no l X d (lk_s2 σ c V T) τ (c := c) (k := (k)) (z := (z)) (b := true) (hc := hc) (n := n) (hV := by rw [lk_s2_c]; exact hW) (hk := hkn) (q := q) (h := by rw [lk_s2_c]; exact hp)) ?_
          refine lk_k3 ?_
          refine lk_cast (pc' := 34) (S' := [lk_vi (-2000002)]) rfl rfl rfl ?_
          refine lk_ldc dX0_travel_34 kX0_76 ?_
          refine lk_icmp_ne (tgt := 47) dX0_travel_36 (by decide) (fun h5 => absurd h5 (by intro q9; exact q9 rfl)) (fun h5 => ?_)
          refine lk_aload_n dX0_travel_39 rfl rfl ?_
          refine lk_iconst (v := 1) dX0_travel_40 (by decide) ?_
          refine lk_putZ (f := 12) dX0_travel_41 hc fX0_119 (by decide) (by decide) (by decide) ?_
          refine lk_iload dX0_travel_44 rfl ?_
          refine lk_iret .int dX0_travel_46 rfl rfl ?_
          rw [hQ]
          simp only [lk_trv, hp] at hI
          rw [hI]
          exact ⟨by simp, lk_ySb σ c k V T q, rfl⟩
      ·
        have e0 : n - k = 0 := by omega
        rw [e0] at hI
        refine lk_callV (o := c) (as := [lk_vi (nI (k))]) (S := []) dX0_travel_13 rfl vX0_hasLock rfl lX0_68 hc rfl (Nat.le_of_ble_eq_true rfl) (tX0_hasLock_out l X (d + 2) (lk_s2 σ c V T) τ (c := c) (k := nI (k)) (hc := hc) (hk := Or.inr (by rw [lk_s2_c, hW.1]; exact nI_le hkn (by omega)))) ?_
        refine lk_k3 ?_
        refine lk_cast (pc' := 16) (S' := [lk_vi 0]) rfl rfl rfl ?_
        refine lk_if_eq (tgt := 67) dX0_travel_16 (by decide) (fun h6 => ?_) (fun h6 => absurd h6 (by decide))
        refine lk_iload dX0_travel_67 rfl ?_
        refine lk_iret .int dX0_travel_69 rfl rfl ?_
        rw [hQ]
        first | (simp only [List.range'_zero, lk_trv] at hI; rw [hI]; exact ⟨by simp, rfl, rfl⟩) | (simp only [List.range_zero, List.reverse_nil, lk_trv] at hI; rw [hI]; exact ⟨by simp, rfl, rfl⟩)
  refine lk_sg (lk_s2_self σ c) ?_
  exact LP10 (n - a + 1) a 0 (σ c) (σ (c + 1)) ha (by have := hV.2.2.1; omega) hV (by simp [lk_lks]) (by omega)

set_option maxHeartbeats 4000000 in
set_option maxRecDepth 100000 in
theorem tX0_travel_dn (l : Launch) (X : lk_G) (d : Nat) (σ : lk_N) (τ : lk_T) (c : Nat) (hc : lk_ko c = 0) (n a : Nat) (z : Int32) (hV : lk_cok (σ c) n) (ha : a ≤ n) (hz : 0 ≤ z.toInt) (hz9 : z.toInt ≤ 9) : lk_Mt l X mX0_travel (d + 3) [lk_vr c 0, lk_vi (nI (a)), lk_vi 0, lk_vi (z)] σ τ (fun rr σ1 τ1 => rr = some (lk_vi (nI ((lk_trv false z (lk_lks false a n) (σ c) (σ (c + 1))).1))) ∧ σ1 = lk_yS σ c (lk_trv false z (lk_lks false a n) (σ c) (σ (c + 1))).2 ∧ τ1 = τ) := by
  refine lk_met (L := [(0, lk_vr c 0), (1, lk_vi (nI (a))), (2, lk_vi 0), (3, lk_vi (z))]) (by decide +kernel) (Nat.le_of_ble_eq_true rfl) rfl ?_
  obtain ⟨Q, hQ⟩ : ∃ Q : lk_Q, Q = fun rr σ1 τ1 => rr = some (lk_vi (nI ((lk_trv false z (lk_lks false a n) (σ c) (σ (c + 1))).1))) ∧ σ1 = lk_yS σ c (lk_trv false z (lk_lks false a n) (σ c) (σ (c + 1))).2 ∧ τ1 = τ := ⟨_, rfl⟩
  rw [← hQ]
  refine lk_iconst (v := 0) dX0_travel_0 (by decide) ?_
  refine lk_istore (L' := [(0, lk_vr c 0), (1, lk_vi (nI (a))), (2, lk_vi 0), (3, lk_vi (z)), (4, lk_vi 0)]) dX0_travel_1 (by decide +kernel) rfl ?_
  refine lk_iload_n dX0_travel_3 rfl rfl ?_
  refine lk_iload_n dX0_travel_4 rfl rfl ?_
  refine lk_callS (as := [lk_vi (nI (a)), lk_vi 0]) (S := []) dX0_travel_5 rfl vX0_lockFrom rfl lX0_111 (Nat.le_of_ble_eq_true rfl) (tX0_lockFrom_dn l X (d + 2) σ τ (r := (a)) ) ?_
  refine lk_k3 ?_
  refine lk_cast (pc' := 8) (S' := [lk_vi (nI ((a)) - 1)]) rfl rfl rfl ?_
  refine lk_istore (L' := [(0, lk_vr c 0), (1, lk_vi (nI (a))), (2, lk_vi 0), (3, lk_vi (z)), (4, lk_vi 0), (5, lk_vi (nI ((a)) - 1))]) dX0_travel_8 (by decide +kernel) rfl ?_
  have LP10 : ∀ (fu : Nat) (k i : Nat) (V T : lk_O), k ≤ n → i + k ≤ 6 → lk_cok V n → lk_trv false z (lk_lks false a n) (σ c) (σ (c + 1)) = ((lk_trv false z (List.range k).reverse V T).1 + i, (lk_trv false z (List.range k).reverse V T).2) → k < fu → lk_W l X mX0_travel (d + 3) 10 [(0, lk_vr c 0), (1, lk_vi (nI (a))), (2, lk_vi 0), (3, lk_vi (z)), (4, lk_vi (nI (i))), (5, lk_vi (nI (k) - 1))] [] (lk_s2 σ c V T) τ Q := by
    intro fu
    induction fu with
    | zero => intro k i V T hk hi hW hI hfu; exact absurd hfu (by omega)
    | succ fu ih =>
      intro k i V T hk hi hW hI hfu
      have hn6 := hW.2.2.1
      refine lk_aload_n dX0_travel_10 rfl rfl ?_
      refine lk_iload dX0_travel_11 rfl ?_
      rcases k with _ | k
      ·
        refine lk_callV (o := c) (as := [lk_vi (nI (0) - 1)]) (S := []) dX0_travel_13 rfl vX0_hasLock rfl lX0_68 hc rfl (Nat.le_of_ble_eq_true rfl) (tX0_hasLock_out l X (d + 2) (lk_s2 σ c V T) τ (c := c) (k := (nI (0) - 1)) (hc := hc) (hk := Or.inl (by decide))) ?_
        refine lk_k3 ?_
        refine lk_cast (pc' := 16) (S' := [lk_vi 0]) rfl rfl rfl ?_
        refine lk_if_eq (tgt := 67) dX0_travel_16 (by decide) (fun h1 => ?_) (fun h1 => absurd h1 (by decide))
        refine lk_iload dX0_travel_67 rfl ?_
        refine lk_iret .int dX0_travel_69 rfl rfl ?_
        rw [hQ]
        first | (simp only [List.range'_zero, lk_trv] at hI; rw [hI]; exact ⟨by simp, rfl, rfl⟩) | (simp only [List.range_zero, List.reverse_nil, lk_trv] at hI; rw [hI]; exact ⟨by simp, rfl, rfl⟩)
      ·
        have hkn : k < n := by omega
        have er : (List.range (k + 1)).reverse = k :: (List.range k).reverse := by rw [List.range_succ]; simp
        rw [er] at hI
        rw [nI_pred]
        refine lk_callV (o := c) (as := [lk_vi (nI (k))]) (S := []) dX0_travel_13 rfl vX0_hasLock rfl lX0_68 hc rfl (Nat.le_of_ble_eq_true rfl) (tX0_hasLock_in l X (d + 2) (lk_s2 σ c V T) τ (c := c) (k := (k)) (hc := hc) (n := n) (hn := by rw [lk_s2_c]; exact hW.1) (hk := hkn) (hn6 := hV.2.2.1)) ?_
        refine lk_k3 ?_
        refine lk_cast (pc' := 16) (S' := [lk_vi 1]) rfl rfl rfl ?_
        refine lk_if_eq (tgt := 67) dX0_travel_16 (by decide) (fun h2 => absurd h2 (by decide)) (fun h2 => ?_)
        refine lk_iload dX0_travel_19 rfl ?_
        refine lk_bipush (v := 6) dX0_travel_21 (by decide) ?_
        refine lk_icmp_geN (a := i) (b := 6) (tgt := 67) dX0_travel_23 (by decide) (by omega) (by omega) (fun h3 => absurd h3 (by omega)) (fun h3 => ?_)
        refine lk_aload_n dX0_travel_26 rfl rfl ?_
        refine lk_iload dX0_travel_27 rfl ?_
        refine lk_iload_n dX0_travel_29 rfl rfl ?_
        refine lk_iload_n dX0_travel_30 rfl rfl ?_
        rcases hp : lk_pas V k false z with V2 | q
        ·
          refine lk_callV (o := c) (as := [lk_vi (nI (k)), lk_vi 0, lk_vi (z)]) (S := []) dX0_travel_31 rfl vX0_passage rfl lX0_115 hc rfl (Nat.le_of_ble_eq_true rfl) (tX0_passage_ok l X d (lk_s2 σ c V T) τ (c := c) (k := (k)) (z := (z)) (b := false) (hc := hc) (n := n) (hV := by rw [lk_s2_c]; exact hW) (hk := hkn) (V := V2) (h := by rw [lk_s2_c]; exact hp)) ?_
          refine lk_k3 ?_
          refine lk_cast (pc' := 34) (S' := [lk_vi ((lk_s2 σ c V T) c 6 ((k) + 1) - V2 6 ((k) + 1))]) rfl rfl rfl ?_
          refine lk_ldc dX0_travel_34 kX0_76 ?_
          refine lk_icmp_ne (tgt := 47) dX0_travel_36 (by decide) (fun h4 => ?_) (fun h4 => absurd h4 (lk_sp_ne (by rw [lk_s2_c]; exact (lk_pas_ok hp (hW.2.2.2 k (Nat.lt_of_lt_of_le hkn hW.2.2.1)) hz hz9).2.2.1)))
          refine lk_iincN (a := i) (m := 1) (L' := [(0, lk_vr c 0), (1, lk_vi (nI (a))), (2, lk_vi 0), (3, lk_vi (z)), (4, lk_vi (nI (i + 1))), (5, lk_vi (nI (k)))]) dX0_travel_47 rfl rfl (by decide +kernel) rfl ?_
          refine lk_iload dX0_travel_50 rfl ?_
          refine lk_iload_n dX0_travel_52 rfl rfl ?_
          refine lk_if_eq (tgt := 60) dX0_travel_53 (by decide) (fun h5 => ?_) (fun h5 => absurd h5 (by decide))
          refine lk_iconst (v := (-1)) dX0_travel_60 (by decide) ?_
          refine lk_iadd dX0_travel_61 ?_
          refine lk_istore (L' := [(0, lk_vr c 0), (1, lk_vi (nI (a))), (2, lk_vi 0), (3, lk_vi (z)), (4, lk_vi (nI (i + 1))), (5, lk_vi (nI (k) + (-1)))]) dX0_travel_62 (by decide +kernel) rfl ?_
          refine lk_goto (tgt := 10) dX0_travel_64 (by decide) ?_
          simp only [lk_trv, hp] at hI
          refine lk_cast (L' := [(0, lk_vr c 0), (1, lk_vi (nI a)), (2, lk_vi 0), (3, lk_vi z), (4, lk_vi (nI (i + 1))), (5, lk_vi (nI k - 1))]) rfl (by rw [Int32.sub_eq_add_neg]) rfl ?_
          refine lk_sg (σ' := lk_s2 σ c V2 (lk_tad T (V 6 (k + 1) - V2 6 (k + 1)))) (by rw [lk_s2_s2, lk_s2_c, lk_s2_t]) ?_
          exact ih k (i + 1) V2 (lk_tad T (V 6 (k + 1) - V2 6 (k + 1))) (by omega) (by omega) (lk_pas_cok hp hkn hW hz hz9) (by rw [hI]; congr 1; omega) (by omega)
        ·
          refine lk_callV (o := c) (as := [lk_vi (nI (k)), lk_vi 0, lk_vi (z)]) (S := []) dX0_travel_31 rfl vX0_passage rfl lX0_115 hc rfl (Nat.le_of_ble_eq_true rfl) (tX0_passage_no l X d (lk_s2 σ c V T) τ (c := c) (k := (k)) (z := (z)) (b := false) (hc := hc) (n := n) (hV := by rw [lk_s2_c]; exact hW) (hk := hkn) (q := q) (h := by rw [lk_s2_c]; exact hp)) ?_
          refine lk_k3 ?_
          refine lk_cast (pc' := 34) (S' := [lk_vi (-2000002)]) rfl rfl rfl ?_
          refine lk_ldc dX0_travel_34 kX0_76 ?_
          refine lk_icmp_ne (tgt := 47) dX0_travel_36 (by decide) (fun h6 => absurd h6 (by intro q9; exact q9 rfl)) (fun h6 => ?_)
          refine lk_aload_n dX0_travel_39 rfl rfl ?_
          refine lk_iconst (v := 1) dX0_travel_40 (by decide) ?_
          refine lk_putZ (f := 12) dX0_travel_41 hc fX0_119 (by decide) (by decide) (by decide) ?_
          refine lk_iload dX0_travel_44 rfl ?_
          refine lk_iret .int dX0_travel_46 rfl rfl ?_
          rw [hQ]
          simp only [lk_trv, hp] at hI
          rw [hI]
          exact ⟨by simp, lk_ySb σ c k V T q, rfl⟩
  refine lk_sg (lk_s2_self σ c) ?_
  exact LP10 (a + 1) a 0 (σ c) (σ (c + 1)) ha (by have := hV.2.2.1; omega) hV (by simp [lk_lks]) (by omega)
