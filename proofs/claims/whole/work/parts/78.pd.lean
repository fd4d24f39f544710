theorem lk_fpl_c {B C : lk_O} {w : Int32} : ∀ (m b : Nat), (∀ i, i < b + m → C 0 i = B 0 i) → lk_fpl C w m b = lk_fpl B w m b
  | 0, b, _ => rfl
  | m + 1, b, h => by
    unfold lk_fpl
    rw [h b (by omega), lk_fpl_c m (b + 1) (fun i hi => h i (by omega))]
theorem lk_fold_c {B C : lk_O} {nf : Nat} {w : Int32} (h : ∀ i, i < nf → C 0 i = B 0 i) : lk_fold C nf w = lk_fold B nf w := by
  unfold lk_fold
  rw [lk_fpl_c nf 0 (fun i hi => h i (by omega))]
  by_cases c : lk_fpl B w nf 0 < nf
  · rw [h _ c]
  · simp [c]
theorem lk_fno_m {B : lk_O} {w : Int32} {nf : Nat} (hs : ∀ a b, a < b → b < nf → B 0 a < B 0 b) : ∀ (m b : Nat), b + m = nf → lk_fno B w m b = if lk_fpl B w m b < nf ∧ B 0 (lk_fpl B w m b) = w then nI (lk_fpl B w m b) else -2
  | 0, b, h => by
    unfold lk_fno lk_fpl
    rw [if_neg (by omega)]
  | m + 1, b, h => by
    unfold lk_fno lk_fpl
    by_cases e : B 0 b = w
    · rw [if_pos e, if_neg (show ¬ B 0 b < w by rw [e]; exact Int32.lt_irrefl), if_pos ⟨by omega, e⟩]
    · rw [if_neg e]
      by_cases c : B 0 b < w
      · rw [if_pos c]; exact lk_fno_m hs m (b + 1) (by omega)
      · rw [if_neg c, if_neg (fun z => e z.2)]
        have hlt : w < B 0 b := by
          rcases Int32.lt_or_eq_of_le (Int32.not_lt.mp c) with q | q
          · exact q
          · exact absurd q.symm e
        rw [lk_fno_m hs m (b + 1) (by omega), if_neg]
        rintro ⟨z1, z2⟩
        have hge : ∀ (m b2 : Nat), b + 1 ≤ b2 → b + 1 ≤ lk_fpl B w m b2 := by
          intro m
          induction m with
          | zero => intro b2 h2; exact h2
          | succ m ih =>
            intro b2 h2
            unfold lk_fpl
            split
            · exact ih _ (by omega)
            · exact h2
        have := hs b _ (show b < lk_fpl B w m (b + 1) by have := hge m (b + 1) (Nat.le_refl _); omega) z1
        rw [z2] at this
        exact Int32.lt_irrefl (Int32.lt_trans this hlt)
theorem lk_frm_e {n nf b : Nat} {N : Nat → Int32} {B : lk_O} (hb : b < nf) (h : lk_fok n nf N B) : lk_fok n (nf - 1) (lk_mbw (lk_frm (lk_BM N) b nf) N) (lk_frm B b nf) := by
  have he := lk_BM_e h
  have hB (f i : Nat) (hf : f < 5) : lk_frm B b nf f i = if b ≤ i ∧ i + 1 < nf then B f (i + 1) else B f i := by
    simp only [lk_frm]
    by_cases c : b ≤ i ∧ i + 1 < nf
    · rw [if_pos ⟨hf, c⟩, if_pos c]
    · rw [if_neg (fun z => c z.2), if_neg (by omega), if_neg c]
  have hv (f i : Nat) (hf : f < 5) (hi : i < nf - 1) : ∃ j, j < nf ∧ lk_frm B b nf f i = B f j ∧ ∀ f, f < 5 → lk_frm B b nf f i = B f j := by
    by_cases c : b ≤ i ∧ i + 1 < nf
    · exact ⟨i + 1, by omega, by rw [hB f i hf, if_pos c], fun f hf => by rw [hB f i hf, if_pos c]⟩
    · exact ⟨i, by omega, by rw [hB f i hf, if_neg c], fun f hf => by rw [hB f i hf, if_neg c]⟩
  refine lk_fok_mb (by simp [lk_frm]) (by have := h.2.1; omega) (by simp [lk_frm]) (fun f j hf hj => ?_) (fun i hi => ?_) (fun x hx => ?_) (fun x y hxy hy => ?_)
  · simp only [lk_frm]
    by_cases c : f < 5 ∧ b ≤ j ∧ j + 1 < nf
    · rw [if_pos c, if_pos c]; exact he f (j + 1) hf (by omega)
    · rw [if_neg c, if_neg c, if_neg (by omega), if_neg (by omega)]; exact he f j hf (by omega)
  · rw [hB 3 i (by decide)]
    split
    · exact h.2.2.2.2.1 (i + 1) (by have := h.2.1; omega)
    · exact h.2.2.2.2.1 i hi
  · obtain ⟨j, hj, _, e⟩ := hv 0 x (by decide) hx
    rw [e 1 (by decide), e 0 (by decide), e 4 (by decide)]
    exact h.2.2.2.2.2.1 j hj
  · have s := h.2.2.2.2.2.2
    rw [hB 0 x (by decide), hB 0 y (by decide)]
    split <;> split
    · exact s _ _ (by omega) (by omega)
    · exact s _ _ (by omega) (by omega)
    · exact s _ _ (by omega) (by omega)
    · exact s _ _ hxy (by omega)
theorem pp_leaves (l : Launch) (X : lk_G) (d d2 : Nat) (σ : lk_N) (τ : lk_T) (n nf nt c : Nat) (hR : lk_R σ τ n nf nt c) (b : Int32) : lk_Mt l X mX8_leaves (d + 2) [lk_vr 0 0, lk_vi b] σ τ (lk_PP l X mX9_leaves (d2 + 2) [lk_vr 1 0, lk_vi b] c) := by
  have ha := hR.1.1
  have hV := ha.1
  have hn6 := hV.2.2.1
  have hV0 := hV.1
  have hms := lk_R_ms hR (s := σ) rfl
  have hN53 : σ 1 0 53 = nI n := by rw [← hms, lk_r0 rfl rfl]; exact hV0
  have hRc := lk_R_c hR
  have hfk := hR.1.2.2.2.2
  have hn11 := hfk.1
  have hn12 := hfk.2.1
  have hm114 := hfk.2.2.1
  have hbv : lk_bv σ (σ 11) nf := hfk.2.2.2.1
  have hmb := lk_mb_BM σ
  have hBe := lk_BM_e hfk
  have hB5 : lk_BM (σ 1 0) 5 0 = nI nf := (lk_BM_5 _).trans hm114
  
  rcases lk_ix (k := b) (n := nf) (by omega) with ⟨j, hj, rfl⟩ | ⟨h1, h2⟩
  · have h8 := tX8_leaves_ok l X d σ τ nf j hn11 hj hn12 hfk.2.2.2.2.1
    have hmb2 : lk_mb (lk_so σ 11 (lk_frm (σ 11) j nf)) (lk_BM (σ 1 0)) = lk_so σ 11 (lk_frm (σ 11) j nf) := lk_mb_BM (lk_so σ 11 (lk_frm (σ 11) j nf))
    have h9 := tX9_leaves_ok l X d2 (lk_so σ 11 (lk_frm (σ 11) j nf)) τ (lk_BM (σ 1 0)) nf j hB5 hj hn12
    refine lk_pp h8 (lk_pfc hmb2 h9 (lk_R_B (nf' := nf - 1) (nt' := nt) hR (Bm := lk_frm (lk_BM (σ 1 0)) j nf) (lk_mbu _ _) ?_ ?_ (fun o f i ho a b cc => ?_) ?_))
    · rw [lk_mbu, show (lk_mb (lk_so σ 11 (lk_frm (σ 11) j nf)) (lk_frm (lk_BM (σ 1 0)) j nf)) 11 = lk_frm (σ 11) j nf from by funext f i; rw [lk_bn (by omega)]; simp [lk_so]]
      exact lk_frm_e hj hfk
    · exact lk_tpe_e hR.2.1 (by funext f i; rw [lk_bn (by omega)]; rfl) (by rw [lk_bn (by decide)]; rfl) (by funext i; rw [lk_bn (by decide)]; rfl)
    · rw [lk_bn (by omega), lk_so_ne a]
    · rw [lk_bn (by decide)]; rfl
  · exact lk_pp (tX8_leaves_out l X d σ τ b (by rw [hn11]; exact h1)) (lk_pfc hmb (tX9_leaves_out l X d2 σ τ (lk_BM (σ 1 0)) b (by rw [hB5]; exact h2)) (by rw [hmb]; exact hRc))

theorem pp_boat (l : Launch) (X : lk_G) (d d2 : Nat) (σ : lk_N) (τ : lk_T) (n nf nt c : Nat) (hR : lk_R σ τ n nf nt c) (b w : Int32) : lk_Mt l X mX8_boat (d + 4) [lk_vr 0 0, lk_vi b, lk_vi w] σ τ (lk_PP l X mX9_boat (d2 + 2) [lk_vr 1 0, lk_vi b, lk_vi w] c) := by
  have ha := hR.1.1
  have hV := ha.1
  have hn6 := hV.2.2.1
  have hV0 := hV.1
  have hms := lk_R_ms hR (s := σ) rfl
  have hN53 : σ 1 0 53 = nI n := by rw [← hms, lk_r0 rfl rfl]; exact hV0
  have hRc := lk_R_c hR
  have hfk := hR.1.2.2.2.2
  have hn11 := hfk.1
  have hn12 := hfk.2.1
  have hm114 := hfk.2.2.1
  have hbv : lk_bv σ (σ 11) nf := hfk.2.2.2.1
  have hmb := lk_mb_BM σ
  have hBe := lk_BM_e hfk
  have hB5 : lk_BM (σ 1 0) 5 0 = nI nf := (lk_BM_5 _).trans hm114
  
  rcases lk_ix (k := b) (n := nf) (by omega) with ⟨j, hj, rfl⟩ | ⟨h1, h2⟩
  · have h0 := hBe 0 j (by decide) hj
    have hnok : lk_nok (lk_BM (σ 1 0) 0 j) := by rw [h0]; exact (hfk.2.2.2.2.2.1 j hj).2.1
    have h01 : lk_BM (σ 1 0) 3 j = 0 ∨ lk_BM (σ 1 0) 3 j = 1 := by rw [hBe 3 j (by decide) hj]; exact hfk.2.2.2.2.1 j (by omega)
    have hfn : ∀ w, w ≤ 4 → lk_fnum (lk_BM (σ 1 0)) j w = lk_fnum (σ 11) j w := fun w _ => by
      unfold lk_fnum
      rw [hBe 1 j (by decide) hj, hBe 2 j (by decide) hj, hBe 3 j (by decide) hj, hBe 4 j (by decide) hj, h0]
    by_cases hb : w < 0 ∨ (4 < w ∧ w < 10)
    · exact lk_pp (tX8_boat_bad l X d σ τ nf j hn11 hj hn12 w hb) (lk_pfc hmb (tX9_boat_bad l X d2 σ τ (lk_BM (σ 1 0)) nf j hB5 hj hn12 w hb) (by rw [hmb]; exact hRc))
    · by_cases h14 : 14 ≤ w
      · exact lk_pp (tX8_boat_far l X d σ τ nf j hn11 hj hn12 w h14) (lk_pfc hmb (tX9_boat_far l X d2 σ τ (lk_BM (σ 1 0)) nf j hB5 hj hn12 hnok w h14) (by rw [hmb]; exact hRc))
      · obtain ⟨i, hi, rfl⟩ := nI_of2 (x := w) (M := 13) (n := 13) rfl (fun q => hb (Or.inl q)) (Int32.le_iff_toInt_le.mpr (by
          have := Int32.lt_iff_toInt_lt.mp (Int32.not_le.mp h14)
          rw [show (14 : Int32).toInt = 14 from rfl] at this
          rw [show (13 : Int32).toInt = 13 from rfl]; omega))
        rcases (show i = 0 ∨ i = 1 ∨ i = 2 ∨ i = 3 ∨ i = 4 ∨ (4 < i ∧ i < 10) ∨ 10 ≤ i by omega) with rfl | rfl | rfl | rfl | rfl | hm | hm
        · have h8 := tX8_boat_num l X d σ τ nf j hn11 hj hn12 0 (by decide)
          rw [← hfn 0 (by decide)] at h8
          exact lk_pp h8 (lk_pfc hmb (tX9_boat_0 l X d2 σ τ (lk_BM (σ 1 0)) nf j hB5 hj hn12) (by rw [hmb]; exact hRc))
        · have h8 := tX8_boat_num l X d σ τ nf j hn11 hj hn12 1 (by decide)
          rw [← hfn 1 (by decide)] at h8
          exact lk_pp h8 (lk_pfc hmb (tX9_boat_1 l X d2 σ τ (lk_BM (σ 1 0)) nf j hB5 hj hn12) (by rw [hmb]; exact hRc))
        · have h8 := tX8_boat_num l X d σ τ nf j hn11 hj hn12 2 (by decide)
          rw [← hfn 2 (by decide)] at h8
          exact lk_pp h8 (lk_pfc hmb (tX9_boat_2 l X d2 σ τ (lk_BM (σ 1 0)) nf j hB5 hj hn12 h01) (by rw [hmb]; exact hRc))
        · have h8 := tX8_boat_num l X d σ τ nf j hn11 hj hn12 3 (by decide)
          rw [← hfn 3 (by decide)] at h8
          exact lk_pp h8 (lk_pfc hmb (tX9_boat_3 l X d2 σ τ (lk_BM (σ 1 0)) nf j hB5 hj hn12) (by rw [hmb]; exact hRc))
        · have h8 := tX8_boat_num l X d σ τ nf j hn11 hj hn12 4 (by decide)
          rw [← hfn 4 (by decide)] at h8
          exact lk_pp h8 (lk_pfc hmb (tX9_boat_4 l X d2 σ τ (lk_BM (σ 1 0)) nf j hB5 hj hn12 hnok) (by rw [hmb]; exact hRc))
        · exact absurd (Or.inr ⟨nI_lt (a := 4) hm.1 (by omega), nI_lt (b := 10) hm.2 (by decide)⟩) hb
        · obtain ⟨k, rfl⟩ : ∃ k, i = k + 10 := ⟨i - 10, by omega⟩
          have h8 := tX8_boat_let l X d σ τ nf j hn11 hj hn12 k (by omega)
          rw [← h0] at h8
          exact lk_pp h8 (lk_pfc hmb (tX9_boat_let l X d2 σ τ (lk_BM (σ 1 0)) nf j hB5 hj hn12 hnok k (by omega)) (by rw [hmb]; exact hRc))
  · exact lk_pp (tX8_boat_out l X d σ τ b (by rw [hn11]; exact h1) w) (lk_pfc hmb (tX9_boat_out l X d2 σ τ (lk_BM (σ 1 0)) b (by rw [hB5]; exact h2) w) (by rw [hmb]; exact hRc))

theorem pp_find (l : Launch) (X : lk_G) (d d2 : Nat) (σ : lk_N) (τ : lk_T) (n nf nt c : Nat) (hR : lk_R σ τ n nf nt c) : lk_Mt l X mX8_find (d + 2) [lk_vr 0 0] σ τ (lk_PP l X mX9_find (d2 + 3) [lk_vr 1 0] c) := by
  have ha := hR.1.1
  have hV := ha.1
  have hn6 := hV.2.2.1
  have hV0 := hV.1
  have hms := lk_R_ms hR (s := σ) rfl
  have hN53 : σ 1 0 53 = nI n := by rw [← hms, lk_r0 rfl rfl]; exact hV0
  have hRc := lk_R_c hR
  have hfk := hR.1.2.2.2.2
  have hn11 := hfk.1
  have hn12 := hfk.2.1
  have hm114 := hfk.2.2.1
  have hbv : lk_bv σ (σ 11) nf := hfk.2.2.2.1
  have hmb := lk_mb_BM σ
  have hBe := lk_BM_e hfk
  have hB5 : lk_BM (σ 1 0) 5 0 = nI nf := (lk_BM_5 _).trans hm114
  
  obtain ⟨t1, t2, t3, t4⟩ := hR.2.1
  have h8 := tX8_find l X d σ τ nf hn11 hn12 nt t1 t2
  obtain ⟨σ1, hσ1⟩ : ∃ s : lk_N, s = lk_up (lk_up σ 14 2 0 (nI (lk_rdn (σ 14) nt 4 0 0).2)) 14 1 0 0 := ⟨_, rfl⟩
  rw [← hσ1] at h8
  have e1 : σ1 1 = σ 1 := by rw [hσ1]; rfl
  have hmb2 : lk_mb σ1 (lk_BM (σ 1 0)) = σ1 := by have := lk_mb_BM σ1; rwa [e1] at this
  have h9 := tX9_find l X d2 σ1 τ (lk_BM (σ 1 0)) nf hB5 hn12 (σ 14) nt t2 (by rw [e1]; exact t3) (fun a ha => by rw [e1]; exact (t4 a ha).1)
  have hfc : lk_fold (lk_BM (σ 1 0)) nf (lk_rdn (σ 14) nt 4 0 0).1 = lk_fold (σ 11) nf (lk_rdn (σ 14) nt 4 0 0).1 := lk_fold_c (fun i hi => hBe 0 i (by decide) hi)
  have hpc : lk_fpl (lk_BM (σ 1 0)) (lk_rdn (σ 14) nt 4 0 0).1 nf 0 = lk_fpl (σ 11) (lk_rdn (σ 14) nt 4 0 0).1 nf 0 := lk_fpl_c nf 0 (fun i hi => hBe 0 i (by decide) (by omega))
  rw [hfc, hpc] at h9
  have hval : (if ¬ (lk_rdn (σ 14) nt 4 0 0).1 = 0 ∧ nt ≤ (lk_rdn (σ 14) nt 4 0 0).2 then lk_fno (σ 11) (lk_rdn (σ 14) nt 4 0 0).1 nf 0 else -2) = (if ¬ (lk_rdn (σ 14) nt 4 0 0).1 = 0 ∧ nt ≤ (lk_rdn (σ 14) nt 4 0 0).2 ∧ lk_fold (σ 11) nf (lk_rdn (σ 14) nt 4 0 0).1 = true then nI (lk_fpl (σ 11) (lk_rdn (σ 14) nt 4 0 0).1 nf 0) else -2) := by
    rw [lk_fno_m hfk.2.2.2.2.2.2 nf 0 (by omega)]
    have hfd : lk_fold (σ 11) nf (lk_rdn (σ 14) nt 4 0 0).1 = true ↔ (lk_fpl (σ 11) (lk_rdn (σ 14) nt 4 0 0).1 nf 0 < nf ∧ σ 11 0 (lk_fpl (σ 11) (lk_rdn (σ 14) nt 4 0 0).1 nf 0) = (lk_rdn (σ 14) nt 4 0 0).1) := by
      unfold lk_fold
      rw [Bool.and_eq_true, decide_eq_true_iff, decide_eq_true_iff]
    simp only [hfd]
    by_cases q1 : ¬ (lk_rdn (σ 14) nt 4 0 0).1 = 0 ∧ nt ≤ (lk_rdn (σ 14) nt 4 0 0).2
    · rw [if_pos q1]
      by_cases q2 : lk_fpl (σ 11) (lk_rdn (σ 14) nt 4 0 0).1 nf 0 < nf ∧ σ 11 0 (lk_fpl (σ 11) (lk_rdn (σ 14) nt 4 0 0).1 nf 0) = (lk_rdn (σ 14) nt 4 0 0).1
      · rw [if_pos q2, if_pos ⟨q1.1, q1.2, q2⟩]
      · rw [if_neg q2, if_neg (fun z => q2 z.2.2)]
    · rw [if_neg q1, if_neg (fun z => q1 ⟨z.1, z.2.1⟩)]
  rw [hval] at h8
  refine lk_pp h8 (lk_pfb hmb2 h9 (fun W hW => ?_))
  have hw0 : W 1 0 = σ 1 0 := by rw [← e1]; exact funext fun i => hW.1 1 0 i (by decide)
  have hWmb : lk_mb W (lk_BM (σ 1 0)) = W := by have := lk_mb_BM W; rwa [hw0] at this
  rw [hWmb]
  obtain ⟨hI, ht, hcs, hac, him⟩ := hR
  have eo (o : Nat) (h1 : ¬ o = 1) (h14 : ¬ o = 14) : W o = σ o := funext fun f => funext fun i => by rw [hW.1 o f i (fun z => h1 z.1), hσ1]; simp only [lk_up]; rw [if_neg (by omega), if_neg (by omega)]
  have ef (f : Nat) (hf : f ∉ [12, 14, 15]) : W 1 f = σ 1 f := funext fun i => by rw [hW.1 1 f i (fun z => hf z.2), e1]
  refine ⟨n, nf, 0, ⟨by rw [eo 2 (by decide) (by decide)]; exact hI.1, ?_, ⟨by rw [hw0]; exact hI.2.2.1.1, by rw [hw0]; exact hI.2.2.1.2⟩, by rw [eo 3 (by decide) (by decide)]; exact lk_T_c hI.2.2.2.1, ?_⟩, ⟨?_, by decide, hW.2, fun a ha => absurd ha (by omega)⟩, lk_cse_e hcs (eo 4 (by decide) (by decide)) (by rw [ef 10 (by decide)]) (ef 11 (by decide)), hac, lk_img9_e him (by rw [eo 0 (by decide) (by decide)]) (by rw [ef 3 (by decide)]) (ef 1 (by decide)) (eo 5 (by decide) (by decide)) (eo 6 (by decide) (by decide)) (eo 13 (by decide) (by decide)) rfl rfl⟩
  · rw [eo 2 (by decide) (by decide), eo 3 (by decide) (by decide), hw0]; exact hI.2.1
  · rw [eo 11 (by decide) (by decide), hw0]; exact hfk
  · rw [hW.1 14 1 0 (by decide), hσ1]; rfl
