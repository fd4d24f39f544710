theorem lk_mvs_n {B : lk_O} {q : Nat → Nat} {x : Nat} : ∀ m, (∀ a, a < m → ¬ q a = x) → lk_mvs B q m 4 x = B 4 x
  | 0, _ => rfl
  | m + 1, h => by
    simp only [lk_mvs]
    rw [lk_ou_ne (fun z => h m (by omega) z.2.symm)]
    exact lk_mvs_n m (fun a ha => h a (by omega))
theorem lk_mvs_y {B : lk_O} {q : Nat → Nat} : ∀ m, (∀ a b, a < m → b < m → q a = q b → a = b) → ∀ a, a < m → lk_mvs B q m 4 (q a) = B 4 (q a) + if B 3 (q a) = 0 then 0 - 1 else 1
  | 0, _, a, h => absurd h (by omega)
  | m + 1, hi, a, h => by
    simp only [lk_mvs]
    by_cases e : a = m
    · subst e
      rw [lk_ou_eq, lk_mvs_n a (fun b hb z => by have := hi b a (by omega) (by omega) z; omega), lk_mvs_3 B q a 3 (by decide)]
    · rw [lk_ou_ne (fun z => e (hi a m h (by omega) z.2))]
      exact lk_mvs_y m (fun a b ha hb z => hi a b (by omega) (by omega) z) a (by omega)
/-- the boats behind a run -/
theorem lk_fok_run {n nf k i j : Nat} {σ W : lk_N} {B : lk_O} (h : lk_fok n nf (σ 1 0) B) (hk : k < n) (hm : lk_mvd σ W B nf k i j) (hi : i ≤ (lk_qb B nf k).1) (hj : j ≤ (lk_qa B nf k).1) : lk_fok n nf (W 1 0) (lk_mvs (lk_mvs B (lk_qb B nf k).2 i) (lk_qa B nf k).2 j) := by
  obtain ⟨k1, k2, k3, k4, k5, k6, k7⟩ := h
  obtain ⟨m1, m2, m3, m4⟩ := hm
  have e (f : Nat) (hf : f ≠ 4) : lk_mvs (lk_mvs B (lk_qb B nf k).2 i) (lk_qa B nf k).2 j f = B f := by rw [lk_mvs_3 _ _ j f hf, lk_mvs_3 _ _ i f hf]
  have ib : ∀ a b, a < i → b < i → (lk_qb B nf k).2 a = (lk_qb B nf k).2 b → a = b := fun a b ha hb z => lk_gat_i B (nI k) 1 nf a b (show a < (lk_qb B nf k).1 by omega) (show b < (lk_qb B nf k).1 by omega) z
  have ia : ∀ a b, a < j → b < j → (lk_qa B nf k).2 a = (lk_qa B nf k).2 b → a = b := fun a b ha hb z => lk_gat_i B (nI (k + 1)) 0 nf a b (show a < (lk_qa B nf k).1 by omega) (show b < (lk_qa B nf k).1 by omega) z
  -- the reach of each boat, on both sides
  have r4 : ∀ b, b < nf → W 1 0 (102 + b) = lk_mvs (lk_mvs B (lk_qb B nf k).2 i) (lk_qa B nf k).2 j 4 b ∧ ∃ r, r ≤ n ∧ W 1 0 (102 + b) = nI r := fun b hb => by
    by_cases c1 : ∃ a, a < i ∧ (lk_qb B nf k).2 a = b
    · obtain ⟨a, ha, rfl⟩ := c1
      have hp := lk_gat_p B (nI k) 1 nf a (show a < (lk_qb B nf k).1 by omega)
      rw [m2 a ha, lk_mvs_n j (fun x hx z => lk_qab (show a < (lk_qb B nf k).1 by omega) (show x < (lk_qa B nf k).1 by omega) z.symm), lk_mvs_y i ib a ha, hp.1, hp.2, if_neg (by decide)]
      exact ⟨(nI_add k 1).symm, k + 1, by omega, rfl⟩
    · have c1' : ∀ a, a < i → ¬ (lk_qb B nf k).2 a = b := fun a ha z => c1 ⟨a, ha, z⟩
      by_cases c2 : ∃ a, a < j ∧ (lk_qa B nf k).2 a = b
      · obtain ⟨a, ha, rfl⟩ := c2
        have hp := lk_gat_p B (nI (k + 1)) 0 nf a (show a < (lk_qa B nf k).1 by omega)
        rw [m3 a ha, lk_mvs_y j ia a ha, lk_mvs_n i c1', lk_mvs_3 _ _ i 3 (by decide), hp.1, hp.2, if_pos rfl, show (0 - 1 : Int32) = -1 from rfl]
        exact ⟨lk_m1.symm, k, by omega, rfl⟩
      · have c2' : ∀ a, a < j → ¬ (lk_qa B nf k).2 a = b := fun a ha z => c2 ⟨a, ha, z⟩
        rw [m4 b hb c1' c2', lk_mvs_n j c2', lk_mvs_n i c1']
        exact ⟨rfl, (k6 b hb).2.2⟩
  have mx : ∀ x, (∀ b, b < nf → ¬ x = 102 + b) → W 1 0 x = σ 1 0 x := m1
  refine ⟨by rw [e 5 (by decide)]; exact k1, k2, by rw [mx 114 (fun b hb => by omega)]; exact k3, fun b hb => ?_, fun x hx => by rw [e 3 (by decide)]; exact k5 x hx, fun b hb => ?_, fun a b hab hb => by rw [e 0 (by decide)]; exact k7 a b hab hb⟩
  · have := k4 b hb
    rw [mx (54 + b) (fun c hc => by omega), mx (66 + b) (fun c hc => by omega), mx (78 + b) (fun c hc => by omega), mx (90 + b) (fun c hc => by omega), e 0 (by decide), e 1 (by decide), e 2 (by decide), e 3 (by decide)]
    exact ⟨this.1, this.2.1, this.2.2.1, this.2.2.2.1, (r4 b hb).1⟩
  · rw [e 1 (by decide), e 0 (by decide)]
    obtain ⟨g1, r, hr, g2⟩ := r4 b hb
    exact ⟨(k6 b hb).1, (k6 b hb).2.1, r, hr, by rw [← g1]; exact g2⟩
theorem lk_tb_rr {R Z : Nat → Int32} {qb qa : Nat → Nat} {nb na k ru : Nat} : ∀ (m i j : Nat) (sp : Int32) (V T : lk_O) (M : Nat), M + m ≤ 900000000 → lk_tb T M → lk_tb (lk_rr R Z qb qa nb na k ru m i j sp V T).2.2.2 (M + m)
  | 0, _, _, _, V, T, M, _, h => h
  | m + 1, i, j, sp, V, T, M, hM, h => by
    unfold lk_rr
    rcases lk_frb R qb qa nb na i j (V 5 k) ru with _ | _
    · rcases hp : lk_pas V k false (Z (qa j)) with V' | q
      · simp only [hp]
        exact lk_tb_w (lk_tb_rr m i (j + 1) _ V' _ (M + 1) (by omega) (lk_tb_tad h (by omega))) (by omega)
      · simp only [hp]; exact lk_tb_w h (by omega)
    · rcases hp : lk_pas V k true (Z (qb i)) with V' | q
      · simp only [hp]
        exact lk_tb_w (lk_tb_rr m (i + 1) j _ V' _ (M + 1) (by omega) (lk_tb_tad h (by omega))) (by omega)
      · simp only [hp]; exact lk_tb_w h (by omega)
theorem lk_lt4 {r : Int32} : r < 4 ↔ r ≤ 3 := by
  rw [Int32.lt_iff_toInt_lt, Int32.le_iff_toInt_le, show (4 : Int32).toInt = 4 from rfl, show (3 : Int32).toInt = 3 from rfl]
  omega
theorem lk_fK_yR (σ : lk_N) (j : lk_J) : lk_yR σ 2 j 4 = lk_fK (σ 4) j ∧ lk_yR σ 2 j 3 = j.2.2 := by
  obtain ⟨_ | ⟨k, q⟩, V, T⟩ := j
  · exact ⟨by show lk_so (lk_so σ 2 V) (2 + 1) T 4 = _; rw [lk_so_ne (by decide), lk_so_ne (by decide)]; rfl, lk_so_eq _ _ _⟩
  · refine ⟨lk_so_eq _ _ _, ?_⟩
    show lk_so (lk_so (lk_so σ 2 V) (2 + 1) T) (2 + 2) _ 3 = T
    rw [lk_so_ne (by decide)]; exact lk_so_eq _ _ _
theorem pp_queue (l : Launch) (X : lk_G) (d d2 : Nat) (σ : lk_N) (τ : lk_T) (n nf nt c : Nat) (hR : lk_R σ τ n nf nt c) (k i : Int32) : lk_Mt l X mX8_queue (d + 5) [lk_vr 0 0, lk_vi k, lk_vi i] σ τ (lk_PP l X mX9_queue (d2 + 2) [lk_vr 1 0, lk_vi k, lk_vi i] c) := by
  have ha := hR.1.1
  have hV := ha.1
  have hn6 := hV.2.2.1
  have hV0 := hV.1
  have hms := lk_R_ms hR (s := σ) rfl
  have hN53 : σ 1 0 53 = nI n := by rw [← hms, lk_r0 rfl rfl]; exact hV0
  have hRc := lk_R_c hR
  have hfk := hR.1.2.2.2.2
  have hn11 := hfk.1
  have hn12 := hfk.2.1
  have hm114 := hfk.2.2.1
  have hbv : lk_bv σ (σ 11) nf := hfk.2.2.2.1
  have hW0 : ∀ W, lk_fr σ W → W 1 0 = σ 1 0 := fun W h => by rw [h 1 rfl]
  have hmW : ∀ W, lk_fr σ W → W 1 0 114 = nI nf := fun W h => by rw [h 1 rfl]; exact hm114
  have hbW : ∀ W, lk_fr σ W → lk_bv W (σ 11) nf := fun W h => lk_bv_e (hW0 W h) hbv
  have h01 : ∀ k, k < 6 → σ 2 5 k = 0 ∨ σ 2 5 k = 1 := fun k hk => (hV.2.2.2 k hk).2.2.2.2.2.2
  have hz : ∀ b, b < nf → 0 ≤ (σ 11 1 b).toInt ∧ (σ 11 1 b).toInt ≤ 9 := fun b hb => (hfk.2.2.2.2.2.1 b hb).1
  
  rcases lk_ix (k := k) (n := n) (by omega) with ⟨j, hj, rfl⟩ | ⟨h1, h2⟩
  · by_cases hi : i < -2
    · exact lk_pp (tX8_queue_bad l X d σ τ n hV j hj i hi) (lk_pfm hms (tX9_queue_bad l X d2 σ τ (σ 2) (σ 3) n j hV hj i hi) hRc)
    · by_cases h0 : i < 0
      · have a := Int32.lt_iff_toInt_lt.mp h0
        have b := Int32.le_iff_toInt_le.mp (Int32.not_lt.mp hi)
        rw [show (0 : Int32).toInt = 0 from rfl] at a
        rw [show (-2 : Int32).toInt = -2 from rfl] at b
        rcases (show i.toInt = -1 ∨ i.toInt = -2 by omega) with e | e
        · have : i = -1 := Int32.toInt_inj.mp e
          subst this
          exact lk_ppx (tX8_queue_m1 l X d σ τ n hV j hj nf hn11 hn12 ) (fun W hW => lk_pfx (lk_R_ms hR (hW0 W hW)) (tX9_queue_m1 l X d2 W τ (σ 2) (σ 3) n j hV hj (σ 11) nf (hmW W hW) hn12 (hbW W hW) ) (fun U hU => lk_R_same hR (lk_kp_tr (lk_kp_fr hW) (lk_kp_fx hU (by decide) (by decide)))))
        · have : i = -2 := Int32.toInt_inj.mp e
          subst this
          exact lk_ppx (tX8_queue_m2 l X d σ τ n hV j hj nf hn11 hn12 ) (fun W hW => lk_pfx (lk_R_ms hR (hW0 W hW)) (tX9_queue_m2 l X d2 W τ (σ 2) (σ 3) n j hV hj (σ 11) nf (hmW W hW) hn12 (hbW W hW) ) (fun U hU => lk_R_same hR (lk_kp_tr (lk_kp_fr hW) (lk_kp_fx hU (by decide) (by decide)))))
      · obtain ⟨x, hx, rfl⟩ := nI_of h0
        rcases Nat.lt_or_ge x 20 with h20 | h20
        · rcases Nat.lt_or_ge x (lk_qb (σ 11) nf j).1 with hq | hq
          · exact lk_ppx (tX8_queue_b l X d σ τ n hV j hj nf hn11 hn12 x hx h20 hq) (fun W hW => lk_pfx (lk_R_ms hR (hW0 W hW)) (tX9_queue_b l X d2 W τ (σ 2) (σ 3) n j hV hj (σ 11) nf (hmW W hW) hn12 (hbW W hW) x hx h20 hq) (fun U hU => lk_R_same hR (lk_kp_tr (lk_kp_fr hW) (lk_kp_fx hU (by decide) (by decide)))))
          · exact lk_ppx (tX8_queue_bx l X d σ τ n hV j hj nf hn11 hn12 x hx h20 hq) (fun W hW => lk_pfx (lk_R_ms hR (hW0 W hW)) (tX9_queue_bx l X d2 W τ (σ 2) (σ 3) n j hV hj (σ 11) nf (hmW W hW) hn12 (hbW W hW) x hx h20 hq) (fun U hU => lk_R_same hR (lk_kp_tr (lk_kp_fr hW) (lk_kp_fx hU (by decide) (by decide)))))
        · rcases Nat.lt_or_ge (x - 20) (lk_qa (σ 11) nf j).1 with hq | hq
          · exact lk_ppx (tX8_queue_a l X d σ τ n hV j hj nf hn11 hn12 x hx h20 hq) (fun W hW => lk_pfx (lk_R_ms hR (hW0 W hW)) (tX9_queue_a l X d2 W τ (σ 2) (σ 3) n j hV hj (σ 11) nf (hmW W hW) hn12 (hbW W hW) x hx h20 hq) (fun U hU => lk_R_same hR (lk_kp_tr (lk_kp_fr hW) (lk_kp_fx hU (by decide) (by decide)))))
          · exact lk_ppx (tX8_queue_ax l X d σ τ n hV j hj nf hn11 hn12 x hx h20 hq) (fun W hW => lk_pfx (lk_R_ms hR (hW0 W hW)) (tX9_queue_ax l X d2 W τ (σ 2) (σ 3) n j hV hj (σ 11) nf (hmW W hW) hn12 (hbW W hW) x hx h20 hq) (fun U hU => lk_R_same hR (lk_kp_tr (lk_kp_fr hW) (lk_kp_fx hU (by decide) (by decide)))))
  · exact lk_pp (tX8_queue_out l X d σ τ k (by rw [hV0]; exact h1) i) (lk_pfm hms (tX9_queue_out l X d2 σ τ (σ 2) (σ 3) k (by rw [hV0]; exact h2) i) hRc)

theorem pp_orders (l : Launch) (X : lk_G) (d d2 : Nat) (σ : lk_N) (τ : lk_T) (n nf nt c : Nat) (hR : lk_R σ τ n nf nt c) (k : Int32) : lk_Mt l X mX8_orders (d + 6) [lk_vr 0 0, lk_vi k] σ τ (lk_PP l X mX9_orders (d2 + 17) [lk_vr 1 0, lk_vi k] c) := by
  have ha := hR.1.1
  have hV := ha.1
  have hn6 := hV.2.2.1
  have hV0 := hV.1
  have hms := lk_R_ms hR (s := σ) rfl
  have hN53 : σ 1 0 53 = nI n := by rw [← hms, lk_r0 rfl rfl]; exact hV0
  have hRc := lk_R_c hR
  have hfk := hR.1.2.2.2.2
  have hn11 := hfk.1
  have hn12 := hfk.2.1
  have hm114 := hfk.2.2.1
  have hbv : lk_bv σ (σ 11) nf := hfk.2.2.2.1
  have hW0 : ∀ W, lk_fr σ W → W 1 0 = σ 1 0 := fun W h => by rw [h 1 rfl]
  have hmW : ∀ W, lk_fr σ W → W 1 0 114 = nI nf := fun W h => by rw [h 1 rfl]; exact hm114
  have hbW : ∀ W, lk_fr σ W → lk_bv W (σ 11) nf := fun W h => lk_bv_e (hW0 W h) hbv
  have h01 : ∀ k, k < 6 → σ 2 5 k = 0 ∨ σ 2 5 k = 1 := fun k hk => (hV.2.2.2 k hk).2.2.2.2.2.2
  have hz : ∀ b, b < nf → 0 ≤ (σ 11 1 b).toInt ∧ (σ 11 1 b).toInt ≤ 9 := fun b hb => (hfk.2.2.2.2.2.1 b hb).1
  
  rcases lk_ix (k := k) (n := n) (by omega) with ⟨j, hj, rfl⟩ | ⟨h1, h2⟩
  · obtain ⟨bb, hbb⟩ : ∃ x, x = min (lk_qb (σ 11) nf j).1 6 := ⟨_, rfl⟩
    obtain ⟨aa, haa⟩ : ∃ x, x = min (lk_qa (σ 11) nf j).1 6 := ⟨_, rfl⟩
    exact lk_ppx (tX8_orders_ok l X d σ τ n hV j hj nf hn11 hn12 h01 hz aa bb (bb + aa) haa hbb (by omega)) (fun W hW => lk_pfx (lk_R_ms hR (hW0 W hW)) (tX9_orders_ok l X d2 W τ (σ 2) (σ 3) n j ha hj (σ 11) nf (hmW W hW) hn12 (hbW W hW) hz bb aa hbb haa) (fun U hU => lk_R_same hR (lk_kp_tr (lk_kp_fr hW) (lk_kp_fx hU (by decide) (by decide)))))
  · exact lk_pp (tX8_orders_out l X d σ τ k (by rw [hV0]; exact h1)) (lk_pfm hms (tX9_orders_out l X d2 σ τ (σ 2) (σ 3) k (by rw [hV0]; exact h2)) hRc)

theorem pp_best (l : Launch) (X : lk_G) (d d2 : Nat) (σ : lk_N) (τ : lk_T) (n nf nt c : Nat) (hR : lk_R σ τ n nf nt c) (k i : Int32) : lk_Mt l X mX8_best (d + 6) [lk_vr 0 0, lk_vi k, lk_vi i] σ τ (lk_PP l X mX9_best (d2 + 17) [lk_vr 1 0, lk_vi k, lk_vi i] c) := by
  have ha := hR.1.1
  have hV := ha.1
  have hn6 := hV.2.2.1
  have hV0 := hV.1
  have hms := lk_R_ms hR (s := σ) rfl
  have hN53 : σ 1 0 53 = nI n := by rw [← hms, lk_r0 rfl rfl]; exact hV0
  have hRc := lk_R_c hR
  have hfk := hR.1.2.2.2.2
  have hn11 := hfk.1
  have hn12 := hfk.2.1
  have hm114 := hfk.2.2.1
  have hbv : lk_bv σ (σ 11) nf := hfk.2.2.2.1
  have hW0 : ∀ W, lk_fr σ W → W 1 0 = σ 1 0 := fun W h => by rw [h 1 rfl]
  have hmW : ∀ W, lk_fr σ W → W 1 0 114 = nI nf := fun W h => by rw [h 1 rfl]; exact hm114
  have hbW : ∀ W, lk_fr σ W → lk_bv W (σ 11) nf := fun W h => lk_bv_e (hW0 W h) hbv
  have h01 : ∀ k, k < 6 → σ 2 5 k = 0 ∨ σ 2 5 k = 1 := fun k hk => (hV.2.2.2 k hk).2.2.2.2.2.2
  have hz : ∀ b, b < nf → 0 ≤ (σ 11 1 b).toInt ∧ (σ 11 1 b).toInt ≤ 9 := fun b hb => (hfk.2.2.2.2.2.1 b hb).1
  
  rcases lk_ix (k := k) (n := n) (by omega) with ⟨j, hj, rfl⟩ | ⟨h1, h2⟩
  · obtain ⟨bb, hbb⟩ : ∃ x, x = min (lk_qb (σ 11) nf j).1 6 := ⟨_, rfl⟩
    obtain ⟨aa, haa⟩ : ∃ x, x = min (lk_qa (σ 11) nf j).1 6 := ⟨_, rfl⟩
    by_cases hi : i < -1
    · exact lk_pp (tX8_best_low l X d σ τ n hV j hj i hi) (lk_pfm hms (tX9_best_low l X d2 σ τ (σ 2) (σ 3) n j ha hj i hi) hRc)
    · by_cases h0 : i < 0
      · have a := Int32.lt_iff_toInt_lt.mp h0
        have b := Int32.le_iff_toInt_le.mp (Int32.not_lt.mp hi)
        rw [show (0 : Int32).toInt = 0 from rfl] at a
        rw [show (-1 : Int32).toInt = -1 from rfl] at b
        have : i = -1 := Int32.toInt_inj.mp (by rw [show (-1 : Int32).toInt = -1 from rfl]; omega)
        subst this
        exact lk_ppx (tX8_best_m1 l X d σ τ n hV j hj nf hn11 hn12 h01 hz aa bb (bb + aa) haa hbb (by omega)) (fun W hW => lk_pfx (lk_R_ms hR (hW0 W hW)) (tX9_best_m1 l X d2 W τ (σ 2) (σ 3) n j ha hj (σ 11) nf (hmW W hW) hn12 (hbW W hW) hz bb aa hbb haa) (fun U hU => lk_R_same hR (lk_kp_tr (lk_kp_fr hW) (lk_kp_fx hU (by decide) (by decide)))))
      · obtain ⟨x, hx, rfl⟩ := nI_of h0
        exact lk_ppx (tX8_best_i l X d σ τ n hV j hj nf hn11 hn12 h01 hz aa bb (bb + aa) haa hbb (by omega) x hx) (fun W hW => lk_pfx (lk_R_ms hR (hW0 W hW)) (tX9_best_i l X d2 W τ (σ 2) (σ 3) n j ha hj (σ 11) nf (hmW W hW) hn12 (hbW W hW) hz bb aa hbb haa x hx) (fun U hU => lk_R_same hR (lk_kp_tr (lk_kp_fr hW) (lk_kp_fx hU (by decide) (by decide)))))
  · exact lk_pp (tX8_best_out l X d σ τ k (by rw [hV0]; exact h1) i) (lk_pfm hms (tX9_best_out l X d2 σ τ (σ 2) (σ 3) k (by rw [hV0]; exact h2) i) hRc)

theorem pp_ruled (l : Launch) (X : lk_G) (d d2 : Nat) (σ : lk_N) (τ : lk_T) (n nf nt c : Nat) (hR : lk_R σ τ n nf nt c) (k r w : Int32) : lk_Mt l X mX8_ruled (d + 6) [lk_vr 0 0, lk_vi k, lk_vi r, lk_vi w] σ τ (lk_PP l X mX9_ruled (d2 + 6) [lk_vr 1 0, lk_vi k, lk_vi r, lk_vi w] c) := by
  have ha := hR.1.1
  have hV := ha.1
  have hn6 := hV.2.2.1
  have hV0 := hV.1
  have hms := lk_R_ms hR (s := σ) rfl
  have hN53 : σ 1 0 53 = nI n := by rw [← hms, lk_r0 rfl rfl]; exact hV0
  have hRc := lk_R_c hR
  have hfk := hR.1.2.2.2.2
  have hn11 := hfk.1
  have hn12 := hfk.2.1
  have hm114 := hfk.2.2.1
  have hbv : lk_bv σ (σ 11) nf := hfk.2.2.2.1
  have hW0 : ∀ W, lk_fr σ W → W 1 0 = σ 1 0 := fun W h => by rw [h 1 rfl]
  have hmW : ∀ W, lk_fr σ W → W 1 0 114 = nI nf := fun W h => by rw [h 1 rfl]; exact hm114
  have hbW : ∀ W, lk_fr σ W → lk_bv W (σ 11) nf := fun W h => lk_bv_e (hW0 W h) hbv
  have h01 : ∀ k, k < 6 → σ 2 5 k = 0 ∨ σ 2 5 k = 1 := fun k hk => (hV.2.2.2 k hk).2.2.2.2.2.2
  have hz : ∀ b, b < nf → 0 ≤ (σ 11 1 b).toInt ∧ (σ 11 1 b).toInt ≤ 9 := fun b hb => (hfk.2.2.2.2.2.1 b hb).1
  
  rcases lk_ix (k := k) (n := n) (by omega) with ⟨j, hj, rfl⟩ | ⟨h1, h2⟩
  · by_cases hr : (0 ≤ r ∧ r ≤ 3) ∧ 0 ≤ w ∧ w ≤ 2
    · obtain ⟨x, hx, rfl⟩ := nI_of2 (M := 3) (n := 3) rfl (Int32.not_lt.mpr hr.1.1) hr.1.2
      obtain ⟨y, hy, rfl⟩ := nI_of2 (M := 2) (n := 2) rfl (Int32.not_lt.mpr hr.2.1) hr.2.2
      rcases (show y = 0 ∨ y = 1 ∨ y = 2 by omega) with rfl | rfl | rfl
      · exact lk_ppx (tX8_ruled_0 l X d σ τ n hV j hj nf hn11 hn12 h01 hz x hx) (fun W hW => lk_pfx (lk_R_ms hR (hW0 W hW)) (tX9_ruled_0 l X d2 W τ (σ 2) (σ 3) n j ha hj (σ 11) nf (hmW W hW) hn12 (hbW W hW) hz x hx) (fun U hU => lk_R_same hR (lk_kp_tr (lk_kp_fr hW) (lk_kp_kz hU.1 (by decide) hU.2))))
      · exact lk_ppx (tX8_ruled_1 l X d σ τ n hV j hj nf hn11 hn12 h01 hz x hx) (fun W hW => lk_pfx (lk_R_ms hR (hW0 W hW)) (tX9_ruled_1 l X d2 W τ (σ 2) (σ 3) n j ha hj (σ 11) nf (hmW W hW) hn12 (hbW W hW) hz x hx) (fun U hU => lk_R_same hR (lk_kp_tr (lk_kp_fr hW) (lk_kp_kz hU.1 (by decide) hU.2))))
      · exact lk_ppx (tX8_ruled_2 l X d σ τ n hV j hj nf hn11 hn12 h01 hz x hx) (fun W hW => lk_pfx (lk_R_ms hR (hW0 W hW)) (tX9_ruled_2 l X d2 W τ (σ 2) (σ 3) n j ha hj (σ 11) nf (hmW W hW) hn12 (hbW W hW) hz x hx) (fun U hU => lk_R_same hR (lk_kp_tr (lk_kp_fr hW) (lk_kp_kz hU.1 (by decide) hU.2))))
    · exact lk_pp (tX8_ruled_bad l X d σ τ n hV j hj r w (fun z => hr ⟨⟨z.1.1, lk_lt4.mp z.1.2⟩, z.2⟩)) (lk_pfm hms (tX9_ruled_bad l X d2 σ τ (σ 2) (σ 3) n j ha hj r w hr) hRc)
  · exact lk_pp (tX8_ruled_out l X d σ τ k (by rw [hV0]; exact h1) r w) (lk_pfm hms (tX9_ruled_out l X d2 σ τ (σ 2) (σ 3) k (by rw [hV0]; exact h2) r w) hRc)

theorem pp_keeper (l : Launch) (X : lk_G) (d d2 : Nat) (σ : lk_N) (τ : lk_T) (n nf nt c : Nat) (hR : lk_R σ τ n nf nt c) (k : Int32) : lk_Mt l X mX8_keeper (d + 6) [lk_vr 0 0, lk_vi k] σ τ (lk_PP l X mX9_keeper (d2 + 6) [lk_vr 1 0, lk_vi k] c) := by
  have ha := hR.1.1
  have hV := ha.1
  have hn6 := hV.2.2.1
  have hV0 := hV.1
  have hms := lk_R_ms hR (s := σ) rfl
  have hN53 : σ 1 0 53 = nI n := by rw [← hms, lk_r0 rfl rfl]; exact hV0
  have hRc := lk_R_c hR
  have hfk := hR.1.2.2.2.2
  have hn11 := hfk.1
  have hn12 := hfk.2.1
  have hm114 := hfk.2.2.1
  have hbv : lk_bv σ (σ 11) nf := hfk.2.2.2.1
  have hW0 : ∀ W, lk_fr σ W → W 1 0 = σ 1 0 := fun W h => by rw [h 1 rfl]
  have hmW : ∀ W, lk_fr σ W → W 1 0 114 = nI nf := fun W h => by rw [h 1 rfl]; exact hm114
  have hbW : ∀ W, lk_fr σ W → lk_bv W (σ 11) nf := fun W h => lk_bv_e (hW0 W h) hbv
  have h01 : ∀ k, k < 6 → σ 2 5 k = 0 ∨ σ 2 5 k = 1 := fun k hk => (hV.2.2.2 k hk).2.2.2.2.2.2
  have hz : ∀ b, b < nf → 0 ≤ (σ 11 1 b).toInt ∧ (σ 11 1 b).toInt ≤ 9 := fun b hb => (hfk.2.2.2.2.2.1 b hb).1
  
  rcases lk_ix (k := k) (n := n) (by omega) with ⟨j, hj, rfl⟩ | ⟨h1, h2⟩
  · exact lk_ppx (tX8_keeper_ok l X d σ τ n hV j hj nf hn11 hn12 h01 hz) (fun W hW => lk_pfx (lk_R_ms hR (hW0 W hW)) (tX9_keeper_ok l X d2 W τ (σ 2) (σ 3) n j ha hj (σ 11) nf (hmW W hW) hn12 (hbW W hW) hz) (fun U hU => lk_R_same hR (lk_kp_tr (lk_kp_fr hW) (lk_kp_kz hU.1 (by decide) hU.2))))
  · exact lk_pp (tX8_keeper_out l X d σ τ k (by rw [hV0]; exact h1)) (lk_pfm hms (tX9_keeper_out l X d2 σ τ (σ 2) (σ 3) k (by rw [hV0]; exact h2)) hRc)

theorem pp_run (l : Launch) (X : lk_G) (d d2 : Nat) (σ : lk_N) (τ : lk_T) (n nf nt c : Nat) (hR : lk_R σ τ n nf nt c) (hc : c ≤ 1000000) (k r : Int32) : lk_Mt l X mX8_run (d + 5) [lk_vr 0 0, lk_vi k, lk_vi r] σ τ (lk_PP l X mX9_run (d2 + 6) [lk_vr 1 0, lk_vi k, lk_vi r] c) := by
  have ha := hR.1.1
  have hV := ha.1
  have hn6 := hV.2.2.1
  have hV0 := hV.1
  have hms := lk_R_ms hR (s := σ) rfl
  have hN53 : σ 1 0 53 = nI n := by rw [← hms, lk_r0 rfl rfl]; exact hV0
  have hRc := lk_R_c hR
  have hfk := hR.1.2.2.2.2
  have hn11 := hfk.1
  have hn12 := hfk.2.1
  have hm114 := hfk.2.2.1
  have hbv : lk_bv σ (σ 11) nf := hfk.2.2.2.1
  have hW0 : ∀ W, lk_fr σ W → W 1 0 = σ 1 0 := fun W h => by rw [h 1 rfl]
  have hmW : ∀ W, lk_fr σ W → W 1 0 114 = nI nf := fun W h => by rw [h 1 rfl]; exact hm114
  have hbW : ∀ W, lk_fr σ W → lk_bv W (σ 11) nf := fun W h => lk_bv_e (hW0 W h) hbv
  have h01 : ∀ k, k < 6 → σ 2 5 k = 0 ∨ σ 2 5 k = 1 := fun k hk => (hV.2.2.2 k hk).2.2.2.2.2.2
  have hz : ∀ b, b < nf → 0 ≤ (σ 11 1 b).toInt ∧ (σ 11 1 b).toInt ≤ 9 := fun b hb => (hfk.2.2.2.2.2.1 b hb).1
  
  rcases lk_ix (k := k) (n := n) (by omega) with ⟨j, hj, rfl⟩ | ⟨h1, h2⟩
  · by_cases hr : 0 ≤ r ∧ r ≤ 3
    · obtain ⟨x, hx, rfl⟩ := nI_of2 (M := 3) (n := 3) rfl (Int32.not_lt.mpr hr.1) hr.2
      have h8 := tX8_run_ok l X d σ τ n hV j hj nf hn11 hn12 h01 hz x hx
      have hal := lk_all_run (B := σ 11) (T := σ 3) (nf := nf) (ru := x) hj hz ha
      have htb := lk_tb_rr (R := σ 11 2) (Z := σ 11 1) (qb := (lk_qb (σ 11) nf j).2) (qa := (lk_qa (σ 11) nf j).2) (nb := (lk_qb (σ 11) nf j).1) (na := (lk_qa (σ 11) nf j).1) (k := j) (ru := x) ((lk_qb (σ 11) nf j).1 + (lk_qa (σ 11) nf j).1) 0 0 0 (σ 2) (σ 3) (60 * c) (by have a1 := lk_gat_le (σ 11) (nI j) 1 nf; have a2 := lk_gat_le (σ 11) (nI (j + 1)) 0 nf; have e1 : (lk_qb (σ 11) nf j).1 = (lk_gat (σ 11) (nI j) 1 nf).1 := rfl; have e2 : (lk_qa (σ 11) nf j).1 = (lk_gat (σ 11) (nI (j + 1)) 0 nf).1 := rfl; omega) (lk_tb_c hR.1.2.2.2.1)
      have hnn : (lk_qb (σ 11) nf j).1 + (lk_qa (σ 11) nf j).1 ≤ 24 := by
        have a1 := lk_gat_le (σ 11) (nI j) 1 nf
        have a2 := lk_gat_le (σ 11) (nI (j + 1)) 0 nf
        have e1 : (lk_qb (σ 11) nf j).1 = (lk_gat (σ 11) (nI j) 1 nf).1 := rfl
        have e2 : (lk_qa (σ 11) nf j).1 = (lk_gat (σ 11) (nI (j + 1)) 0 nf).1 := rfl
        omega
      obtain ⟨RN, hRN⟩ : ∃ z, z = lk_run (σ 11) (σ 2) (σ 3) nf j x := ⟨_, rfl⟩
      have hle := lk_rr_le (B := σ 11) (V := σ 2) (T := σ 3) (nf := nf) (k := j) (ru := x) hRN
      rw [← hRN] at h8 hal
      have htb' : lk_tb RN.2.2.2 (60 * c + ((lk_qb (σ 11) nf j).1 + (lk_qa (σ 11) nf j).1)) := by rw [hRN]; exact htb
      refine lk_ppx h8 (fun W hW => ?_)
      have e1 : W 1 = σ 1 := by rw [hW 1 rfl, lk_so_ne (by decide), lk_yR_ne (by decide) (by decide) (by decide)]
      have h9 := tX9_run_ok l X d2 W τ (σ 2) (σ 3) n j ha hj (σ 11) nf (by rw [e1]; exact hm114) hn12 (lk_bv_e (by rw [e1]) hbv) hz x hx
      rw [← hRN] at h9
      refine lk_pfx (lk_R_ms hR (by rw [e1])) h9 (fun U hU => lk_R_end (j := RN.2) hR e1 (V2 := RN.2.2.1) ?_ (fun f i _ => rfl) ?_ (fun o ho h => ?_) (lk_fx_W hU.1 (by decide)) (fun i hi => ?_) hal (lk_tb_60 htb' (by omega)) ?_ ?_ ?_)
      · rw [hW 2 rfl, lk_so_ne (by decide)]; exact lk_yR_c σ 2 RN.2
      · rw [hW 3 rfl, lk_so_ne (by decide)]; exact (lk_fK_yR σ RN.2).2
      · rw [hW o ho, lk_so_ne (by omega), lk_yR_ne (by omega) (by omega) (by omega)]
      · rw [hU.2.1.1 i (fun b hb => by omega), e1]
      · rw [hW 11 rfl, lk_so_eq]
        refine lk_fok_run (σ := σ) hfk hj ?_ hle.1 hle.2
        have := hU.2.1
        unfold lk_mvd at this ⊢
        rw [e1] at this
        exact this
      · rw [hW 4 rfl, lk_so_ne (by decide)]; exact (lk_fK_yR σ RN.2).1
      · have := hU.2.2.2.2
        rw [if_pos rfl] at this
        cases hjj : RN.2.1 with
        | none => rw [hjj] at this; exact ⟨this.1.trans (by rw [e1]), this.2.trans (by rw [e1])⟩
        | some z => rw [hjj] at this; exact this
    · exact lk_pp (tX8_run_bad l X d σ τ n hV j hj r (fun z => hr ⟨z.1, lk_lt4.mp z.2⟩)) (lk_pfm hms (tX9_run_bad l X d2 σ τ (σ 2) (σ 3) n j ha hj r hr) hRc)
  · exact lk_pp (tX8_run_out l X d σ τ k (by rw [hV0]; exact h1) r) (lk_pfm hms (tX9_run_out l X d2 σ τ (σ 2) (σ 3) k (by rw [hV0]; exact h2) r) hRc)
