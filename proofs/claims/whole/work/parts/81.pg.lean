theorem lk_fx_W {S : List Nat} {σ W : lk_N} (h : lk_fx S σ W) (hS : ∀ f ∈ S, ¬ (f = 1 ∨ f = 3 ∨ f = 12 ∨ f = 13)) : ∀ o f i, ¬ (o = 1 ∧ ¬ (f = 1 ∨ f = 3 ∨ f = 12 ∨ f = 13)) → W o f i = σ o f i := fun o f i q => h o f i (fun z => q ⟨z.1, hS f z.2⟩)
/-- what a call leaves: the class's canal, tally, cause, boats, and the model's numbers by them -/
theorem lk_R_end {σ σ1 W : lk_N} {τ : lk_T} {n nf nt c : Nat} {V V2 T : lk_O} {j : lk_J} (hR : lk_R σ τ n nf nt c) (e1 : σ1 1 = σ 1) (h2 : σ1 2 = V2) (hV : ∀ f i, f < 10 → V2 f i = V f i) (h3 : σ1 3 = T) (ho : ∀ o, lk_scr o = false → ¬ (o = 1 ∨ o = 2 ∨ o = 3 ∨ o = 4 ∨ o = 11) → σ1 o = σ o)
    (hW : ∀ o f i, ¬ (o = 1 ∧ ¬ (f = 1 ∨ f = 3 ∨ f = 12 ∨ f = 13)) → W o f i = σ1 o f i) (hN1 : ∀ i, (i < 54 ∨ 114 < i) → W 1 0 i = σ 1 0 i) (hall : lk_all V2 n) (hT : ∀ k, k < 118 → 0 ≤ (T 0 k).toInt ∧ (T 0 k).toInt ≤ 60 * (c + 1 : Nat))
    (hf : lk_fok n nf (W 1 0) (σ1 11)) (h4 : σ1 4 = lk_fK (σ 4) j) (hk : lk_kz σ W j.1) : lk_Rel (lk_ms W V T) τ (c + 1) := by
  have hm : lk_ms W V T = lk_ms W V2 T := lk_ms_e W (fun f i hf => (hV f i hf).symm)
  rw [hm]
  have hs : ∀ o f i, ¬ (o = 1 ∧ ¬ (f = 1 ∨ f = 3 ∨ f = 12 ∨ f = 13)) → (lk_ms W V2 T) o f i = σ1 o f i := fun o f i q => by
    rw [lk_rf (by omega)]; exact hW o f i q
  have hs1 : ∀ f i, ¬ f = 0 → (lk_ms W V2 T) 1 f i = W 1 f i := fun f i h => lk_rf (by omega)
  refine lk_R_all hR (V := V2) (T := T) (N1 := W 1 0) (funext fun f => funext fun i => by rw [hs 2 f i (by omega), h2]) (funext fun f => funext fun i => by rw [hs 3 f i (by omega), h3]) (funext fun i => lk_ms_r i) hN1 hall hT ?_ ?_ (fun o f i hr a b => ?_)
  · rw [show (lk_ms W V2 T) 11 = σ1 11 from funext fun f => funext fun i => hs 11 f i (by omega)]; exact hf
  · refine lk_cse_j (σ := σ) (j := j.1) (V := j.2.1) (T := j.2.2) hR.2.2.1 (by rw [← h4]; exact funext fun f => funext fun i => hs 4 f i (by omega)) ?_
    obtain ⟨_ | ⟨k, q⟩, A, B⟩ := j
    · exact ⟨(hs1 10 0 (by decide)).trans hk.1, funext fun i => by rw [hs1 11 i (by decide), hk.2]⟩
    · exact ⟨(hs1 10 0 (by decide)).trans hk.1, (hs1 11 0 (by decide)).trans hk.2.1, (hs1 11 1 (by decide)).trans hk.2.2.1, (hs1 11 2 (by decide)).trans hk.2.2.2.1, (hs1 11 3 (by decide)).trans hk.2.2.2.2⟩
  · by_cases h1 : o = 1
    · subst h1
      have hff : f = 1 ∨ f = 3 ∨ f = 12 ∨ f = 13 := by
        simp [lk_rl] at hr
        omega
      rw [hs 1 f i (fun z => z.2 hff), e1]
    · have hsc : lk_scr o = false := by
        cases hz : lk_scr o
        · rfl
        · exfalso
          simp only [lk_scr, Bool.or_eq_true, beq_iff_eq] at hz
          rcases hz with ((((((z | z) | z) | z) | z) | z) | z) | z <;> subst z <;> simp [lk_rl] at hr
      rw [hs o f i (by omega), ho o hsc (by omega)]
theorem lk_R_same {σ W : lk_N} {τ : lk_T} {n nf nt c : Nat} (hR : lk_R σ τ n nf nt c) (hk : lk_kp σ W) : lk_Rel (lk_ms W (σ 2) (σ 3)) τ (c + 1) := by
  rw [lk_R_ms hR (lk_kp_f hk rfl)]
  exact ⟨n, nf, nt, lk_R_kp hk hR⟩
theorem lk_kp_s3 (σ : lk_N) (V T K : lk_O) : lk_kp σ (lk_s3 σ V T K) := lk_kp_fr (fun o ho => by
  rw [lk_s3, lk_so_ne (by rintro rfl; cases ho), lk_s2_ne (by rintro rfl; cases ho) (by rintro rfl; cases ho)])
theorem lk_trf {u e : Int32} (h : (0 ≤ u ∧ u ≤ 4) ∧ (0 ≤ e ∧ e ≤ 4)) : ∃ a b, a ≤ 4 ∧ b ≤ 4 ∧ u = nI a ∧ e = nI b := by
  obtain ⟨a, ha, rfl⟩ := nI_of2 (M := 4) (n := 4) rfl (Int32.not_lt.mpr h.1.1) h.1.2
  obtain ⟨b, hb, rfl⟩ := nI_of2 (M := 4) (n := 4) rfl (Int32.not_lt.mpr h.2.1) h.2.2
  exact ⟨a, b, ha, hb, rfl, rfl⟩
theorem pp_day (l : Launch) (X : lk_G) (d d2 : Nat) (σ : lk_N) (τ : lk_T) (n nf nt c : Nat) (hR : lk_R σ τ n nf nt c) (hc : c ≤ 1000000) (u e : Int32) : lk_Mt l X mX8_day (d + 5) [lk_vr 0 0, lk_vi u, lk_vi e] σ τ (lk_PP l X mX9_day (d2 + 6) [lk_vr 1 0, lk_vi u, lk_vi e] c) := by
  have ha := hR.1.1
  have hV := ha.1
  have hn6 := hV.2.2.1
  have hV0 := hV.1
  have hms := lk_R_ms hR (s := σ) rfl
  have hN53 : σ 1 0 53 = nI n := by rw [← hms, lk_r0 rfl rfl]; exact hV0
  have hRc := lk_R_c hR
  have hfk := hR.1.2.2.2.2
  have hn11 := hfk.1
  have hn12 := hfk.2.1
  have hm114 := hfk.2.2.1
  have hbv : lk_bv σ (σ 11) nf := hfk.2.2.2.1
  
  by_cases ht : (0 ≤ u ∧ u ≤ 4) ∧ (0 ≤ e ∧ e ≤ 4)
  · obtain ⟨a, b, ha4, hb4, rfl, rfl⟩ := lk_trf ht
    have h8 := tX8_day_ok l X d σ τ n hV a b ha4 hb4
    obtain ⟨DY, hDY⟩ : ∃ x, x = lk_day (σ 2) (σ 3) n a b := ⟨_, rfl⟩
    rw [← hDY, lk_yS_3] at h8
    obtain ⟨σ1, hσ1⟩ : ∃ s : lk_N, s = lk_so (lk_s2 σ 2 (lk_fl DY.2) DY.2.2.2) (2 + 2) (lk_fK (σ (2 + 2)) DY.2) := ⟨_, rfl⟩
    rw [← hσ1] at h8
    have e1 : σ1 1 = σ 1 := by rw [hσ1, lk_so_ne (by decide), lk_s2_ne (by decide) (by decide)]
    have h9 := tX9_day_ok l X d2 σ1 τ (σ 2) (σ 3) n a b ha ha4 hb4
    rw [← hDY] at h9
    refine lk_pp h8 (lk_pfx (lk_R_ms hR (by rw [e1])) h9 (fun W hW => lk_R_end (j := DY.2) hR e1 (V2 := lk_fl DY.2) ?_ (lk_fl_10 _) ?_ (fun o _ h => ?_) (lk_fx_W hW.1 (by decide)) (fun i _ => by rw [hW.1 1 0 i (by decide), e1]) ?_ ?_ ?_ ?_ ?_))
    · rw [hσ1, lk_so_ne (by decide), lk_s2_c]
    · rw [hσ1, lk_so_ne (by decide)]; exact lk_s2_t σ 2 _ _
    · rw [hσ1, lk_so_ne (by omega), lk_s2_ne (by omega) (by omega)]
    · rw [hDY]; exact lk_all_fl (lk_all_day ha)
    · rw [hDY]; exact lk_tb_60 (lk_tb_dyl hn6 _ _ _ _ _ (60 * c) (by omega) (lk_tb_c hR.1.2.2.2.1)) (by omega)
    · rw [show W 1 0 = σ 1 0 from funext fun i => by rw [hW.1 1 0 i (by decide), e1], show σ1 11 = σ 11 by rw [hσ1, lk_so_ne (by decide), lk_s2_ne (by decide) (by decide)]]; exact hfk
    · rw [hσ1]; exact lk_so_eq _ _ _
    · have := hW.2.2.2
      rw [if_pos rfl] at this
      cases hj : DY.2.1 with
      | none => rw [hj] at this; exact ⟨this.1.trans (by rw [e1]), this.2.trans (by rw [e1])⟩
      | some z => rw [hj] at this; exact this
  · exact lk_pp (tX8_day_bad l X d σ τ u e ht) (lk_pf (tX9_day_bad l X d2 σ τ u e ht) hRc)

theorem pp_dry (l : Launch) (X : lk_G) (d d2 : Nat) (σ : lk_N) (τ : lk_T) (n nf nt c : Nat) (hR : lk_R σ τ n nf nt c) (u e w : Int32) : lk_Mt l X mX8_dry (d + 5) [lk_vr 0 0, lk_vi u, lk_vi e, lk_vi w] σ τ (lk_PP l X mX9_dry (d2 + 6) [lk_vr 1 0, lk_vi u, lk_vi e, lk_vi w] c) := by
  have ha := hR.1.1
  have hV := ha.1
  have hn6 := hV.2.2.1
  have hV0 := hV.1
  have hms := lk_R_ms hR (s := σ) rfl
  have hN53 : σ 1 0 53 = nI n := by rw [← hms, lk_r0 rfl rfl]; exact hV0
  have hRc := lk_R_c hR
  by_cases ht : ((0 ≤ u ∧ u ≤ 4) ∧ (0 ≤ e ∧ e ≤ 4)) ∧ 0 ≤ w ∧ w ≤ 1
  · obtain ⟨a, b, ha4, hb4, rfl, rfl⟩ := lk_trf ht.1
    rcases lk_w01 ht.2 with rfl | rfl
    · refine lk_ppy (tX8_dry_0 l X d σ τ n hV a b ha4 hb4 (fun k hk => (hV.2.2.2 k hk).2.2.2.2.2.2)) (fun W => lk_pfx (lk_R_ms hR (lk_kp_f (lk_kp_s3 σ W.1 W.2.1 W.2.2) rfl)) (tX9_dry_0 l X d2 (lk_s3 σ W.1 W.2.1 W.2.2) τ (σ 2) (σ 3) n a b ha ha4 hb4) (fun U hU => lk_R_same hR (lk_kp_tr (lk_kp_s3 σ W.1 W.2.1 W.2.2) (lk_kp_kz hU.1 (by decide) hU.2))))
    · refine lk_ppy (tX8_dry_1 l X d σ τ n hV a b ha4 hb4 (fun k hk => (hV.2.2.2 k hk).2.2.2.2.2.2)) (fun W => lk_pfx (lk_R_ms hR (lk_kp_f (lk_kp_s3 σ W.1 W.2.1 W.2.2) rfl)) (tX9_dry_1 l X d2 (lk_s3 σ W.1 W.2.1 W.2.2) τ (σ 2) (σ 3) n a b ha ha4 hb4) (fun U hU => lk_R_same hR (lk_kp_tr (lk_kp_s3 σ W.1 W.2.1 W.2.2) (lk_kp_kz hU.1 (by decide) hU.2))))
  · exact lk_pp (tX8_dry_bad l X d σ τ u e w (fun z => ht ⟨⟨z.1, z.2.1⟩, z.2.2⟩)) (lk_pf (tX9_dry_bad l X d2 σ τ u e w ht) hRc)

theorem pp_pond (l : Launch) (X : lk_G) (d d2 : Nat) (σ : lk_N) (τ : lk_T) (n nf nt c : Nat) (hR : lk_R σ τ n nf nt c) (u e m : Int32) : lk_Mt l X mX8_pond (d + 6) [lk_vr 0 0, lk_vi u, lk_vi e, lk_vi m] σ τ (lk_PP l X mX9_pond (d2 + 7) [lk_vr 1 0, lk_vi u, lk_vi e, lk_vi m] c) := by
  have ha := hR.1.1
  have hV := ha.1
  have hn6 := hV.2.2.1
  have hV0 := hV.1
  have hms := lk_R_ms hR (s := σ) rfl
  have hN53 : σ 1 0 53 = nI n := by rw [← hms, lk_r0 rfl rfl]; exact hV0
  have hRc := lk_R_c hR
  by_cases ht : ((0 ≤ u ∧ u ≤ 4) ∧ (0 ≤ e ∧ e ≤ 4)) ∧ 1 ≤ m ∧ m ≤ 20
  · obtain ⟨a, b, ha4, hb4, rfl, rfl⟩ := lk_trf ht.1
    obtain ⟨i, hi, rfl⟩ := nI_of2 (M := 20) (n := 20) rfl (Int32.not_lt.mpr (Int32.le_trans (by decide) ht.2.1)) ht.2.2
    have hi1 : 1 ≤ i := by
      have := Int32.le_iff_toInt_le.mp ht.2.1
      rw [nI_toInt (by omega), show (1 : Int32).toInt = 1 from rfl] at this
      omega
    exact lk_ppy (tX8_pond_ok l X d σ τ n hV a b ha4 hb4 i hi1 hi (fun k hk => (hV.2.2.2 k hk).2.2.2.2.2.2)) (fun W => lk_pfx (lk_R_ms hR (lk_kp_f (lk_kp_s3 σ W.1 W.2.1 W.2.2) rfl)) (tX9_pond_ok l X d2 (lk_s3 σ W.1 W.2.1 W.2.2) τ (σ 2) (σ 3) n a b ha ha4 hb4 i hi1 hi) (fun U hU => lk_R_same hR (lk_kp_tr (lk_kp_s3 σ W.1 W.2.1 W.2.2) (lk_kp_kz hU.1 (by decide) hU.2))))
  · exact lk_pp (tX8_pond_bad l X d σ τ u e m (fun z => ht ⟨⟨z.1, z.2.1⟩, z.2.2⟩)) (lk_pf (tX9_pond_bad l X d2 σ τ u e m ht) hRc)

theorem pp_through (l : Launch) (X : lk_G) (d d2 : Nat) (σ : lk_N) (τ : lk_T) (n nf nt c : Nat) (hR : lk_R σ τ n nf nt c) (hc : c ≤ 1000000) (b : Int32) : lk_Mt l X mX8_through (d + 4) [lk_vr 0 0, lk_vi b] σ τ (lk_PP l X mX9_through (d2 + 5) [lk_vr 1 0, lk_vi b] c) := by
  have ha := hR.1.1
  have hV := ha.1
  have hn6 := hV.2.2.1
  have hV0 := hV.1
  have hms := lk_R_ms hR (s := σ) rfl
  have hN53 : σ 1 0 53 = nI n := by rw [← hms, lk_r0 rfl rfl]; exact hV0
  have hRc := lk_R_c hR
  have hfk := hR.1.2.2.2.2
  have hn11 := hfk.1
  have hn12 := hfk.2.1
  have hm114 := hfk.2.2.1
  have hbv : lk_bv σ (σ 11) nf := hfk.2.2.2.1
  
  rcases lk_ix (k := b) (n := nf) (by omega) with ⟨j, hj, rfl⟩ | ⟨h1, h2⟩
  · have hrow := hbv j hj
    have hz := (hfk.2.2.2.2.2.1 j hj).1
    obtain ⟨r, hrn, hr4⟩ := (hfk.2.2.2.2.2.1 j hj).2.2
    rcases (hfk.2.2.2.2.1 j (by omega)).symm with hw | hw
    · have h8 := tX8_through_up l X d σ τ n hV nf j hn11 hj hn12 r (σ 11 1 j) hw hr4 hrn rfl hz.1 hz.2
      have hcnt := lk_trv_cnt (up := true) (z := σ 11 1 j) (lk_lks true r n) (σ 2) (σ 3)
      have hln : (lk_lks true r n).length = n - r := by simp [lk_lks]
      have htb := lk_tb_trv (up := true) (z := σ 11 1 j) (lk_lks true r n) (σ 2) (σ 3) (60 * c) (by omega) (lk_tb_c hR.1.2.2.2.1)
      have hal := lk_all_trv (up := true) (z := σ 11 1 j) hz.1 hz.2 (lk_lks true r n) (σ 2) (σ 3) (lk_lks_lt hrn) ha
      have e1 : ∀ W : lk_O, (lk_up (lk_yS σ 2 (lk_trv true (σ 11 1 j) (lk_lks true r n) (σ 2) (σ 3)).2) 11 4 j (σ 11 4 j + nI (lk_trv true (σ 11 1 j) (lk_lks true r n) (σ 2) (σ 3)).1)) 1 = σ 1 := fun _ => by
        rw [lk_up_so, lk_so_ne (by decide), lk_yS_3, lk_so_ne (by decide), lk_s2_ne (by decide) (by decide)]
      have h9 := tX9_through_up l X d2 (lk_up (lk_yS σ 2 (lk_trv true (σ 11 1 j) (lk_lks true r n) (σ 2) (σ 3)).2) 11 4 j (σ 11 4 j + nI (lk_trv true (σ 11 1 j) (lk_lks true r n) (σ 2) (σ 3)).1)) τ (σ 2) (σ 3) n nf j (by rw [e1 (σ 2)]; exact hm114) hj hn12 ha r (σ 11 1 j) (by rw [e1 (σ 2)]; exact hrow.2.2.2.1.trans hw) (by rw [e1 (σ 2)]; exact hrow.2.2.2.2.trans hr4) hrn (by rw [e1 (σ 2)]; exact hrow.2.1) hz.1 hz.2
      obtain ⟨TR, hTR⟩ : ∃ x, x = lk_trv true (σ 11 1 j) (lk_lks true r n) (σ 2) (σ 3) := ⟨_, rfl⟩
      rw [← hTR] at h8 h9 hcnt htb hal e1
      rw [hr4, show nI r + nI TR.1 = nI (r + TR.1) from nI_add _ _] at h8 h9 e1
      obtain ⟨σ1, hσ1⟩ : ∃ s : lk_N, s = lk_up (lk_yS σ 2 TR.2) 11 4 j (nI (r + TR.1)) := ⟨_, rfl⟩
      rw [← hσ1] at h8 h9 e1
      have e1 := e1 (σ 2)
      rw [lk_up_so, lk_yS_3] at hσ1
      refine lk_pp h8 (lk_pfx (lk_R_ms hR (by rw [e1])) h9 (fun W hW => lk_R_end (j := TR.2) hR e1 (V2 := lk_fl TR.2) ?_ (lk_fl_10 _) ?_ (fun o _ h => ?_) (lk_fx_W hW.1 (by decide)) (fun i hi => by rw [hW.2.1 i (by omega), e1]) ?_ ?_ ?_ ?_ ?_))
      · rw [hσ1, lk_so_ne (by decide), lk_so_ne (by decide), lk_s2_c]
      · rw [hσ1, lk_so_ne (by decide), lk_so_ne (by decide)]; exact lk_s2_t σ 2 _ _
      · rw [hσ1, lk_so_ne (by omega), lk_so_ne (by omega), lk_s2_ne (by omega) (by omega)]
      · exact lk_all_fl hal
      · exact lk_tb_60 htb (by omega)
      · rw [show σ1 11 = lk_ou (σ 11) 4 j (nI (r + TR.1)) by rw [hσ1, lk_so_eq, lk_so_ne (by decide), lk_s2_ne (by decide) (by decide)]]
        exact lk_fok_up (σ := σ) hfk hj (by omega) (fun x hx => by rw [hW.2.1 x hx, e1]) hW.2.2.1
      · rw [hσ1, lk_so_ne (by decide)]; exact lk_so_eq _ _ _
      · have := hW.2.2.2
        cases hjj : TR.2.1 with
        | none => rw [hjj] at this; exact ⟨this.1.trans (by rw [e1]), this.2.trans (by rw [e1])⟩
        | some z => rw [hjj] at this; exact this
    · have h8 := tX8_through_dn l X d σ τ n hV nf j hn11 hj hn12 r (σ 11 1 j) hw hr4 hrn rfl hz.1 hz.2
      have hcnt := lk_trv_cnt (up := false) (z := σ 11 1 j) (lk_lks false r n) (σ 2) (σ 3)
      have hln : (lk_lks false r n).length = r := by simp [lk_lks]
      have htb := lk_tb_trv (up := false) (z := σ 11 1 j) (lk_lks false r n) (σ 2) (σ 3) (60 * c) (by omega) (lk_tb_c hR.1.2.2.2.1)
      have hal := lk_all_trv (up := false) (z := σ 11 1 j) hz.1 hz.2 (lk_lks false r n) (σ 2) (σ 3) (lk_lks_lt hrn) ha
      have e1 : ∀ W : lk_O, (lk_up (lk_yS σ 2 (lk_trv false (σ 11 1 j) (lk_lks false r n) (σ 2) (σ 3)).2) 11 4 j (σ 11 4 j + (0 - nI (lk_trv false (σ 11 1 j) (lk_lks false r n) (σ 2) (σ 3)).1))) 1 = σ 1 := fun _ => by
        rw [lk_up_so, lk_so_ne (by decide), lk_yS_3, lk_so_ne (by decide), lk_s2_ne (by decide) (by decide)]
      have h9 := tX9_through_dn l X d2 (lk_up (lk_yS σ 2 (lk_trv false (σ 11 1 j) (lk_lks false r n) (σ 2) (σ 3)).2) 11 4 j (σ 11 4 j + (0 - nI (lk_trv false (σ 11 1 j) (lk_lks false r n) (σ 2) (σ 3)).1))) τ (σ 2) (σ 3) n nf j (by rw [e1 (σ 2)]; exact hm114) hj hn12 ha r (σ 11 1 j) (by rw [e1 (σ 2)]; exact hrow.2.2.2.1.trans hw) (by rw [e1 (σ 2)]; exact hrow.2.2.2.2.trans hr4) hrn (by rw [e1 (σ 2)]; exact hrow.2.1) hz.1 hz.2
      obtain ⟨TR, hTR⟩ : ∃ x, x = lk_trv false (σ 11 1 j) (lk_lks false r n) (σ 2) (σ 3) := ⟨_, rfl⟩
      rw [← hTR] at h8 h9 hcnt htb hal e1
      rw [hr4, show nI r + (0 - nI TR.1) = nI (r - TR.1) from lk_dnr (by omega) (by omega)] at h8 h9 e1
      obtain ⟨σ1, hσ1⟩ : ∃ s : lk_N, s = lk_up (lk_yS σ 2 TR.2) 11 4 j (nI (r - TR.1)) := ⟨_, rfl⟩
      rw [← hσ1] at h8 h9 e1
      have e1 := e1 (σ 2)
      rw [lk_up_so, lk_yS_3] at hσ1
      refine lk_pp h8 (lk_pfx (lk_R_ms hR (by rw [e1])) h9 (fun W hW => lk_R_end (j := TR.2) hR e1 (V2 := lk_fl TR.2) ?_ (lk_fl_10 _) ?_ (fun o _ h => ?_) (lk_fx_W hW.1 (by decide)) (fun i hi => by rw [hW.2.1 i (by omega), e1]) ?_ ?_ ?_ ?_ ?_))
      · rw [hσ1, lk_so_ne (by decide), lk_so_ne (by decide), lk_s2_c]
      · rw [hσ1, lk_so_ne (by decide), lk_so_ne (by decide)]; exact lk_s2_t σ 2 _ _
      · rw [hσ1, lk_so_ne (by omega), lk_so_ne (by omega), lk_s2_ne (by omega) (by omega)]
      · exact lk_all_fl hal
      · exact lk_tb_60 htb (by omega)
      · rw [show σ1 11 = lk_ou (σ 11) 4 j (nI (r - TR.1)) by rw [hσ1, lk_so_eq, lk_so_ne (by decide), lk_s2_ne (by decide) (by decide)]]
        exact lk_fok_up (σ := σ) hfk hj (by omega) (fun x hx => by rw [hW.2.1 x hx, e1]) hW.2.2.1
      · rw [hσ1, lk_so_ne (by decide)]; exact lk_so_eq _ _ _
      · have := hW.2.2.2
        cases hjj : TR.2.1 with
        | none => rw [hjj] at this; exact ⟨this.1.trans (by rw [e1]), this.2.trans (by rw [e1])⟩
        | some z => rw [hjj] at this; exact this
  · exact lk_pp (tX8_through_out l X d σ τ b (by rw [hn11]; exact h1)) (lk_pfm hms (tX9_through_out l X d2 σ τ (σ 2) (σ 3) b (by rw [hm114]; exact h2)) hRc)

theorem pp_costs (l : Launch) (X : lk_G) (d d2 : Nat) (σ : lk_N) (τ : lk_T) (n nf nt c : Nat) (hR : lk_R σ τ n nf nt c) (b : Int32) : lk_Mt l X mX8_costs (d + 4) [lk_vr 0 0, lk_vi b] σ τ (lk_PP l X mX9_costs (d2 + 5) [lk_vr 1 0, lk_vi b] c) := by
  have ha := hR.1.1
  have hV := ha.1
  have hn6 := hV.2.2.1
  have hV0 := hV.1
  have hms := lk_R_ms hR (s := σ) rfl
  have hN53 : σ 1 0 53 = nI n := by rw [← hms, lk_r0 rfl rfl]; exact hV0
  have hRc := lk_R_c hR
  have hfk := hR.1.2.2.2.2
  have hn11 := hfk.1
  have hn12 := hfk.2.1
  have hm114 := hfk.2.2.1
  have hbv : lk_bv σ (σ 11) nf := hfk.2.2.2.1
  
  rcases lk_ix (k := b) (n := nf) (by omega) with ⟨j, hj, rfl⟩ | ⟨h1, h2⟩
  · have hrow := hbv j hj
    have hz := (hfk.2.2.2.2.2.1 j hj).1
    obtain ⟨r, hrn, hr4⟩ := (hfk.2.2.2.2.2.1 j hj).2.2
    rcases (hfk.2.2.2.2.1 j (by omega)).symm with hw | hw
    · have h8 := tX8_costs_up l X d σ τ n hV nf j hn11 hj hn12 r (σ 11 1 j) hw hr4 hrn rfl hz.1 hz.2 (fun k hk => (hV.2.2.2 k hk).2.2.2.2.2.2)
      have hcg := lk_trv_c (up := true) (z := σ 11 1 j) (lk_lks true r n) (V := lk_im (σ 2) (σ 8)) (W := σ 2) (T := σ 3) (U := σ 3) (fun k hk => Nat.lt_of_lt_of_le (lk_lks_lt hrn k hk) hn6) (lk_eqr_im _ _) (fun _ _ => rfl)
      have hval : lk_fl (lk_trv true (σ 11 1 j) (lk_lks true r n) (lk_im (σ 2) (σ 8)) (σ 3)).2 6 n = (lk_trv true (σ 11 1 j) (lk_lks true r n) (σ 2) (σ 3)).2.2.1 6 n := by
        rw [lk_fl_10 _ 6 n (by decide)]
        exact hcg.2.2.1.2.2.2 6 n (by decide) (by decide) (by omega)
      rw [hval] at h8
      obtain ⟨σ1, hσ1⟩ : ∃ s : lk_N, s = lk_s3 σ (lk_fl (lk_trv true (σ 11 1 j) (lk_lks true r n) (lk_im (σ 2) (σ 8)) (σ 3)).2) (lk_trv true (σ 11 1 j) (lk_lks true r n) (lk_im (σ 2) (σ 8)) (σ 3)).2.2.2 (lk_fK (σ 10) (lk_trv true (σ 11 1 j) (lk_lks true r n) (lk_im (σ 2) (σ 8)) (σ 3)).2) := ⟨_, rfl⟩
      have hkp : lk_kp σ σ1 := by rw [hσ1]; exact lk_kp_s3 σ _ _ _
      rw [← hσ1] at h8
      have e1 : σ1 1 0 = σ 1 0 := lk_kp_f hkp rfl
      have h9 := tX9_costs_up l X d2 σ1 τ (σ 2) (σ 3) n nf j (by rw [e1]; exact hm114) hj hn12 ha r (σ 11 1 j) (by rw [e1]; exact hrow.2.2.2.1.trans hw) (by rw [e1]; exact hrow.2.2.2.2.trans hr4) hrn (by rw [e1]; exact hrow.2.1) hz.1 hz.2
      exact lk_pp h8 (lk_pfx (lk_R_ms hR e1) h9 (fun U hU => lk_R_same hR (lk_kp_tr hkp (lk_kp_kz hU.1 (by decide) hU.2))))
    · have h8 := tX8_costs_dn l X d σ τ n hV nf j hn11 hj hn12 r (σ 11 1 j) hw hr4 hrn rfl hz.1 hz.2 (fun k hk => (hV.2.2.2 k hk).2.2.2.2.2.2)
      have hcg := lk_trv_c (up := false) (z := σ 11 1 j) (lk_lks false r n) (V := lk_im (σ 2) (σ 8)) (W := σ 2) (T := σ 3) (U := σ 3) (fun k hk => Nat.lt_of_lt_of_le (lk_lks_lt hrn k hk) hn6) (lk_eqr_im _ _) (fun _ _ => rfl)
      have hval : lk_fl (lk_trv false (σ 11 1 j) (lk_lks false r n) (lk_im (σ 2) (σ 8)) (σ 3)).2 6 n = (lk_trv false (σ 11 1 j) (lk_lks false r n) (σ 2) (σ 3)).2.2.1 6 n := by
        rw [lk_fl_10 _ 6 n (by decide)]
        exact hcg.2.2.1.2.2.2 6 n (by decide) (by decide) (by omega)
      rw [hval] at h8
      obtain ⟨σ1, hσ1⟩ : ∃ s : lk_N, s = lk_s3 σ (lk_fl (lk_trv false (σ 11 1 j) (lk_lks false r n) (lk_im (σ 2) (σ 8)) (σ 3)).2) (lk_trv false (σ 11 1 j) (lk_lks false r n) (lk_im (σ 2) (σ 8)) (σ 3)).2.2.2 (lk_fK (σ 10) (lk_trv false (σ 11 1 j) (lk_lks false r n) (lk_im (σ 2) (σ 8)) (σ 3)).2) := ⟨_, rfl⟩
      have hkp : lk_kp σ σ1 := by rw [hσ1]; exact lk_kp_s3 σ _ _ _
      rw [← hσ1] at h8
      have e1 : σ1 1 0 = σ 1 0 := lk_kp_f hkp rfl
      have h9 := tX9_costs_dn l X d2 σ1 τ (σ 2) (σ 3) n nf j (by rw [e1]; exact hm114) hj hn12 ha r (σ 11 1 j) (by rw [e1]; exact hrow.2.2.2.1.trans hw) (by rw [e1]; exact hrow.2.2.2.2.trans hr4) hrn (by rw [e1]; exact hrow.2.1) hz.1 hz.2
      exact lk_pp h8 (lk_pfx (lk_R_ms hR e1) h9 (fun U hU => lk_R_same hR (lk_kp_tr hkp (lk_kp_kz hU.1 (by decide) hU.2))))
  · exact lk_pp (tX8_costs_out l X d σ τ b (by rw [hn11]; exact h1)) (lk_pfm hms (tX9_costs_out l X d2 σ τ (σ 2) (σ 3) b (by rw [hm114]; exact h2)) hRc)
