theorem lk_tpe_e {σ s : lk_N} {nt : Nat} (h : lk_tpe σ nt) (h14 : s 14 = σ 14) (h12 : s 1 12 0 = σ 1 12 0) (h13 : s 1 13 = σ 1 13) : lk_tpe s nt := by unfold lk_tpe; rw [h14, h12, h13]; exact h
theorem lk_cse_e {σ s : lk_N} (h : lk_cse σ) (h4 : s 4 = σ 4) (h10 : s 1 10 0 = σ 1 10 0) (h11 : s 1 11 = σ 1 11) : lk_cse s := by unfold lk_cse; rw [h4, h10, h11]; exact h
theorem lk_img9_e {σ s : lk_N} {τ τ' : lk_T} {c : Nat} (h : lk_img9 σ τ c) (h0 : s 0 7 0 = σ 0 7 0) (h3 : s 1 3 0 = σ 1 3 0) (h1 : s 1 1 = σ 1 1) (h5 : s 5 = σ 5) (h6 : s 6 = σ 6) (h13 : s 13 = σ 13) (t6 : τ' 0 6 = τ 0 6) (t5 : τ' 1 5 = τ 1 5) : lk_img9 s τ' (c + 1) := by
  have := lk_img9_c h
  unfold lk_img9; rw [h0, h3, h1, h5, h6, h13, t6, t5]; exact this
theorem lk_rset_w {w v : Int32} (h : lk_rset w v = true) : (0 ≤ w ∧ w ≤ 3) ∧ 0 ≤ v ∧ v ≤ (if w = 3 then 99 else 9999) := by
  unfold lk_rset at h
  simp only [Bool.and_eq_true, decide_eq_true_eq] at h
  exact ⟨⟨h.1.1.1, h.1.1.2⟩, h.1.2, h.2⟩
theorem lk_ti {v : Int32} (h : 0 ≤ v) : 0 ≤ v.toInt := by have := Int32.le_iff_toInt_le.mp h; rwa [show (0 : Int32).toInt = 0 from rfl] at this
theorem lk_all_r {V : lk_O} {n w k : Nat} {v : Int32} (h : lk_all V n) (hw : w ≤ 3) (hv0 : 0 ≤ v) (hv : v ≤ if w = 3 then 99 else 9999) (hc : lk_rchk V w k v = true) : lk_all (lk_ou V (6 + w) k v) n := by
  have hv1 := lk_ti hv0
  have hv2 := Int32.le_iff_toInt_le.mp hv
  unfold lk_rchk at hc
  simp only [Bool.and_eq_true, decide_eq_true_eq] at hc
  refine ⟨⟨by rw [lk_ou_ne (by omega)]; exact h.1.1, h.1.2.1, h.1.2.2.1, fun i hi => ?_⟩, fun r h7 => ?_, ⟨fun r h7 => ?_, ?_, fun r h7 => ?_⟩⟩
  · have hl := h.1.2.2.2 i hi
    unfold lk_lok at hl ⊢
    rw [lk_ou_ne (by omega), lk_ou_ne (by omega), lk_ou_ne (by omega), lk_ou_ne (by omega)]
    exact hl
  · have := h.2.1 r h7
    rcases (show w = 0 ∨ w = 1 ∨ w = 2 ∨ w = 3 by omega) with rfl | rfl | rfl | rfl <;> simp only [lk_ou] <;> grind
  · have := h.2.2.1 r h7
    rcases (show w = 0 ∨ w = 1 ∨ w = 2 ∨ w = 3 by omega) with rfl | rfl | rfl | rfl
    · rw [lk_ou_ne (by omega), lk_ou_ne (by omega), lk_ou_ne (by omega)]; exact this
    · rw [lk_ou_ne (f' := 9) (by omega), lk_ou_ne (f' := 8) (by omega)]
      by_cases e : r = k
      · subst e; rw [lk_ou_eq]; omega
      · rw [lk_ou_ne (by omega)]; exact this
    · rw [lk_ou_ne (f' := 9) (by omega), lk_ou_ne (f' := 7) (by omega)]
      have h99 : v.toInt ≤ 9999 := hv2
      by_cases e : r = k
      · subst e; rw [lk_ou_eq]; omega
      · rw [lk_ou_ne (by omega)]; exact this
    · rw [lk_ou_ne (f' := 7) (by omega), lk_ou_ne (f' := 8) (by omega)]
      by_cases e : r = k
      · subst e; rw [lk_ou_eq]; omega
      · rw [lk_ou_ne (by omega)]; exact this
  · rw [lk_ou_ne (by omega)]; exact h.2.2.2.1
  · have := h.2.2.2.2 r h7
    by_cases e : w = 3 ∧ r = k
    · obtain ⟨rfl, rfl⟩ := e
      have h99 : v.toInt ≤ 99 := hv2
      rw [lk_ou_eq]; exact h99
    · rw [lk_ou_ne (by omega)]; exact this
theorem lk_all_f {V : lk_O} {n : Nat} {v : Int32} (h : lk_all V n) (hv : 0 ≤ v ∧ v ≤ 999) : lk_all (lk_ou V 1 0 v) n := by
  have a := lk_ti hv.1
  have b := Int32.le_iff_toInt_le.mp hv.2
  rw [show (999 : Int32).toInt = 999 from rfl] at b
  refine ⟨⟨by have := h.1.1; simp [lk_ou]; exact this, h.1.2.1, h.1.2.2.1, fun i hi => h.1.2.2.2 i hi⟩, lk_rok_ou h.2.1 (by decide), ⟨fun r h7 => h.2.2.1 r h7, by simp [lk_ou]; exact ⟨a, b⟩, fun r h7 => h.2.2.2.2 r h7⟩⟩
theorem lk_tup_108 (T : lk_O) : lk_tup T 108 = lk_sm (T 0) 118 := lk_sm_e 118 (fun k hk => if_pos (Int32.le_iff_toInt_le.mpr (by rw [lk_nI9 (by omega), show (108 : Int32).toInt = 108 from rfl]; omega)))
theorem pp_reach (l : Launch) (X : lk_G) (d d2 : Nat) (σ : lk_N) (τ : lk_T) (n nf nt c : Nat) (hR : lk_R σ τ n nf nt c) (k w v : Int32) : lk_Mt l X mX8_reach (d + 1) [lk_vr 0 0, lk_vi k, lk_vi w, lk_vi v] σ τ (lk_PP l X mX9_reach (d2 + 2) [lk_vr 1 0, lk_vi k, lk_vi w, lk_vi v] c) := by
  have ha := hR.1.1
  have hV := ha.1
  have hn6 := hV.2.2.1
  have hV0 := hV.1
  have hms := lk_R_ms hR (s := σ) rfl
  have hN53 : σ 1 0 53 = nI n := by rw [← hms, lk_r0 rfl rfl]; exact hV0
  have hRc := lk_R_c hR
  rcases lk_ix2 (k := k) (n := n) (by omega) with ⟨j, hj, rfl⟩ | ⟨h1, h2⟩
  · rcases hs : lk_rset w v with _ | _
    · exact lk_pp (tX8_reach_bad l X d σ τ n hV j hj w v hs) (lk_pfm hms (tX9_reach_bad l X d2 σ τ (σ 2) (σ 3) n j hV hj w v hs) hRc)
    · obtain ⟨⟨w0, w3⟩, hv⟩ := lk_rset_w hs
      obtain ⟨i, hi, rfl⟩ := nI_of2 (M := 3) (n := 3) rfl (Int32.not_lt.mpr w0) w3
      have h8 := tX8_reach_in l X d σ τ n hV j hj i v hi hs
      rcases (show i = 0 ∨ i = 1 ∨ i = 2 ∨ i = 3 by omega) with rfl | rfl | rfl | rfl
      · rcases hc : lk_rchk (σ 2) 0 j v with _ | _
        · rw [hc] at h8
          simp only [Bool.false_eq_true, if_false] at h8
          have h9 := tX9_reach_0 l X d2 σ τ (σ 2) (σ 3) n j hV hj v hv
          rw [hc] at h9
          simp only [Bool.false_eq_true, if_false] at h9
          exact lk_pp h8 (lk_pfm hms h9 hRc)
        · rw [hc] at h8
          simp only [if_true] at h8
          have h9 := tX9_reach_0 l X d2 (lk_up σ 2 6 j v) τ (σ 2) (σ 3) n j hV hj v hv
          rw [hc] at h9
          simp only [if_true] at h9
          exact lk_pp h8 (lk_pfn (lk_R_ms hR (lk_up_1 _ _ _ _)) h9 (lk_R_V2 hR (lk_all_r (w := 0) ha (by decide) hv.1 hv.2 hc)))
      · rcases hc : lk_rchk (σ 2) 1 j v with _ | _
        · rw [hc] at h8
          simp only [Bool.false_eq_true, if_false] at h8
          have h9 := tX9_reach_1 l X d2 σ τ (σ 2) (σ 3) n j hV hj v hv
          rw [hc] at h9
          simp only [Bool.false_eq_true, if_false] at h9
          exact lk_pp h8 (lk_pfm hms h9 hRc)
        · rw [hc] at h8
          simp only [if_true] at h8
          have h9 := tX9_reach_1 l X d2 (lk_up σ 2 7 j v) τ (σ 2) (σ 3) n j hV hj v hv
          rw [hc] at h9
          simp only [if_true] at h9
          exact lk_pp h8 (lk_pfn (lk_R_ms hR (lk_up_1 _ _ _ _)) h9 (lk_R_V2 hR (lk_all_r (w := 1) ha (by decide) hv.1 hv.2 hc)))
      · rcases hc : lk_rchk (σ 2) 2 j v with _ | _
        · rw [hc] at h8
          simp only [Bool.false_eq_true, if_false] at h8
          have h9 := tX9_reach_2 l X d2 σ τ (σ 2) (σ 3) n j hV hj v hv
          rw [hc] at h9
          simp only [Bool.false_eq_true, if_false] at h9
          exact lk_pp h8 (lk_pfm hms h9 hRc)
        · rw [hc] at h8
          simp only [if_true] at h8
          have h9 := tX9_reach_2 l X d2 (lk_up σ 2 8 j v) τ (σ 2) (σ 3) n j hV hj v hv
          rw [hc] at h9
          simp only [if_true] at h9
          exact lk_pp h8 (lk_pfn (lk_R_ms hR (lk_up_1 _ _ _ _)) h9 (lk_R_V2 hR (lk_all_r (w := 2) ha (by decide) hv.1 hv.2 hc)))
      · rcases hc : lk_rchk (σ 2) 3 j v with _ | _
        · rw [hc] at h8
          simp only [Bool.false_eq_true, if_false] at h8
          have h9 := tX9_reach_3 l X d2 σ τ (σ 2) (σ 3) n j hV hj v hv
          rw [hc] at h9
          simp only [Bool.false_eq_true, if_false] at h9
          exact lk_pp h8 (lk_pfm hms h9 hRc)
        · rw [hc] at h8
          simp only [if_true] at h8
          have h9 := tX9_reach_3 l X d2 (lk_up σ 2 9 j v) τ (σ 2) (σ 3) n j hV hj v hv
          rw [hc] at h9
          simp only [if_true] at h9
          exact lk_pp h8 (lk_pfn (lk_R_ms hR (lk_up_1 _ _ _ _)) h9 (lk_R_V2 hR (lk_all_r (w := 3) ha (by decide) hv.1 hv.2 hc)))
  · exact lk_pp (tX8_reach_out l X d σ τ k (by rw [hV0]; exact h1) w v) (lk_pfm hms (tX9_reach_out l X d2 σ τ (σ 2) (σ 3) k (by rw [hV0]; exact h2) w v) hRc)

theorem pp_ofReach (l : Launch) (X : lk_G) (d d2 : Nat) (σ : lk_N) (τ : lk_T) (n nf nt c : Nat) (hR : lk_R σ τ n nf nt c) (k w : Int32) : lk_Mt l X mX8_ofReach (d + 1) [lk_vr 0 0, lk_vi k, lk_vi w] σ τ (lk_PP l X mX9_ofReach (d2 + 2) [lk_vr 1 0, lk_vi k, lk_vi w] c) := by
  have ha := hR.1.1
  have hV := ha.1
  have hn6 := hV.2.2.1
  have hV0 := hV.1
  have hms := lk_R_ms hR (s := σ) rfl
  have hN53 : σ 1 0 53 = nI n := by rw [← hms, lk_r0 rfl rfl]; exact hV0
  have hRc := lk_R_c hR
  have hfk := hR.1.2.2.2.2
  have hn11 := hfk.1
  have hn12 := hfk.2.1
  have hm114 := hfk.2.2.1
  have hbv : lk_bv σ (σ 11) nf := hfk.2.2.2.1
  
  rcases lk_ix2 (k := k) (n := n) (by omega) with ⟨j, hj, rfl⟩ | ⟨h1, h2⟩
  · by_cases hw : 0 ≤ w ∧ w ≤ 4
    · obtain ⟨i, hi, rfl⟩ := nI_of2 (M := 4) (n := 4) rfl (Int32.not_lt.mpr hw.1) hw.2
      rcases (show i = 0 ∨ i = 1 ∨ i = 2 ∨ i = 3 ∨ i = 4 by omega) with rfl | rfl | rfl | rfl | rfl
      · exact lk_pp (tX8_ofReach_ok l X d σ τ n hV j hj 0 (by decide)) (lk_pfm hms (tX9_ofReach_0 l X d2 σ τ (σ 2) (σ 3) n j hV hj) hRc)
      · exact lk_pp (tX8_ofReach_ok l X d σ τ n hV j hj 1 (by decide)) (lk_pfm hms (tX9_ofReach_1 l X d2 σ τ (σ 2) (σ 3) n j hV hj) hRc)
      · exact lk_pp (tX8_ofReach_ok l X d σ τ n hV j hj 2 (by decide)) (lk_pfm hms (tX9_ofReach_2 l X d2 σ τ (σ 2) (σ 3) n j hV hj) hRc)
      · exact lk_pp (tX8_ofReach_ok l X d σ τ n hV j hj 3 (by decide)) (lk_pfm hms (tX9_ofReach_3 l X d2 σ τ (σ 2) (σ 3) n j hV hj) hRc)
      · have e : lk_ct (fun b => decide (σ 11 4 b = nI j)) nf = lk_ct (fun b => decide (σ 1 0 (102 + b) = nI j)) nf := Nat.le_antisymm (lk_ct_le nf (fun b hb h => by rw [(hbv b hb).2.2.2.2]; exact h)) (lk_ct_le nf (fun b hb h => by rw [(hbv b hb).2.2.2.2] at h; exact h))
        have h8 := tX8_ofReach_4 l X d σ τ n hV j hj nf hn11 (by omega)
        rw [e] at h8
        exact lk_pp h8 (lk_pfm hms (tX9_ofReach_4 l X d2 σ τ (σ 2) (σ 3) n j hV hj nf hm114 hn12) hRc)
    · exact lk_pp (tX8_ofReach_bad l X d σ τ n hV j hj w (lk_nbm hw)) (lk_pfm hms (tX9_ofReach_bad l X d2 σ τ (σ 2) (σ 3) n j hV hj w hw) hRc)
  · exact lk_pp (tX8_ofReach_out l X d σ τ k (by rw [hV0]; exact h1) w) (lk_pfm hms (tX9_ofReach_out l X d2 σ τ (σ 2) (σ 3) k (by rw [hV0]; exact h2) w) hRc)

theorem pp_feeds (l : Launch) (X : lk_G) (d d2 : Nat) (σ : lk_N) (τ : lk_T) (n nf nt c : Nat) (hR : lk_R σ τ n nf nt c) (v : Int32) : lk_Mt l X mX8_feeds d [lk_vr 0 0, lk_vi v] σ τ (lk_PP l X mX9_feeds (d2 + 1) [lk_vr 1 0, lk_vi v] c) := by
  have ha := hR.1.1
  have hV := ha.1
  have hn6 := hV.2.2.1
  have hV0 := hV.1
  have hms := lk_R_ms hR (s := σ) rfl
  have hN53 : σ 1 0 53 = nI n := by rw [← hms, lk_r0 rfl rfl]; exact hV0
  have hRc := lk_R_c hR
  have hms2 : lk_ms (lk_up σ 2 1 0 v) (σ 2) (σ 3) = lk_up σ 2 1 0 v := lk_R_ms hR (lk_up_1 _ _ _ _)
  by_cases hv : 0 ≤ v ∧ v ≤ 999
  · have h9 := tX9_feeds_ok l X d2 (lk_up σ 2 1 0 v) τ v hv
    have e52 : (lk_up σ 2 1 0 v) 1 0 52 = σ 2 1 0 := by rw [← hms2, lk_r1 rfl rfl]
    have es : lk_up (lk_up σ 2 1 0 v) 1 0 52 v = lk_ms (lk_up σ 2 1 0 v) (lk_ou (σ 2) 1 0 v) (σ 3) := by
      conv => lhs; rw [← hms2]
      exact (lk_w1 rfl rfl).symm
    rw [e52, es] at h9
    exact lk_pp (tX8_feeds_ok l X d σ τ v (Int32.not_lt.mpr hv.1) hv.2) (lk_pf h9 (lk_R_V2 hR (lk_all_f ha hv)))
  · exact lk_pp (tX8_feeds_bad l X d σ τ v (lk_nbm hv)) (lk_pf (tX9_feeds_bad l X d2 σ τ v hv) hRc)

theorem pp_feed (l : Launch) (X : lk_G) (d d2 : Nat) (σ : lk_N) (τ : lk_T) (n nf nt c : Nat) (hR : lk_R σ τ n nf nt c) (v : Int32) : lk_Mt l X mX8_feed (d + 1) [lk_vr 0 0, lk_vi v] σ τ (lk_PP l X mX9_feed (d2 + 1) [lk_vr 1 0, lk_vi v] c) := by
  have ha := hR.1.1
  have hV := ha.1
  have hn6 := hV.2.2.1
  have hV0 := hV.1
  have hms := lk_R_ms hR (s := σ) rfl
  have hN53 : σ 1 0 53 = nI n := by rw [← hms, lk_r0 rfl rfl]; exact hV0
  have hRc := lk_R_c hR
  obtain ⟨hI, ht, hcs, hac, him⟩ := hR
  obtain ⟨t1, t2, t3, t4⟩ := ht
  by_cases hv : 32 ≤ v ∧ v ≤ 126
  · rcases Nat.lt_or_ge nt 60 with h60 | h60
    · refine lk_pp (tX8_feed_ok l X d σ τ v (Int32.not_lt.mpr hv.1) hv.2 nt t1 h60) (lk_pf (tX9_feed_ok l X d2 _ τ v hv nt ?_ h60) ⟨n, nf, nt + 1, ?_, ?_, lk_cse_e hcs rfl rfl rfl, hac, lk_img9_e him rfl rfl rfl rfl rfl rfl rfl rfl⟩)
      · rw [lk_so_ne (by decide)]; exact t3
      · exact lk_RI_c hI
      · have a := Int32.le_iff_toInt_le.mp hv.1
        have b := Int32.le_iff_toInt_le.mp hv.2
        rw [show (32 : Int32).toInt = 32 from rfl] at a
        rw [show (126 : Int32).toInt = 126 from rfl] at b
        refine ⟨rfl, by omega, rfl, fun x hx => ?_⟩
        simp only [lk_up, lk_so, lk_ou]
        by_cases e : x = nt
        · subst e; simp [lk_ou]; exact ⟨a, b⟩
        · simp [lk_ou, e]; exact t4 x (by omega)
    · have e60 : nt = 60 := by omega
      subst e60
      exact lk_pp (tX8_feed_full l X d σ τ v (Int32.not_lt.mpr hv.1) hv.2 t1) (lk_pf (tX9_feed_full l X d2 σ τ v hv t3) hRc)
  · have h2 : v < 32 ∨ 126 < v := by
      by_cases h0 : 32 ≤ v
      · exact Or.inr (Int32.not_le.mp (fun q => hv ⟨h0, q⟩))
      · exact Or.inl (Int32.not_le.mp h0)
    exact lk_pp (tX8_feed_bad l X d σ τ v h2) (lk_pf (tX9_feed_bad l X d2 σ τ v hv) hRc)

theorem pp_why (l : Launch) (X : lk_G) (d d2 : Nat) (σ : lk_N) (τ : lk_T) (n nf nt c : Nat) (hR : lk_R σ τ n nf nt c) (i : Int32) : lk_Mt l X mX8_why (d + 1) [lk_vr 0 0, lk_vi i] σ τ (lk_PP l X mX9_why (d2 + 1) [lk_vr 1 0, lk_vi i] c) := by
  have ha := hR.1.1
  have hV := ha.1
  have hn6 := hV.2.2.1
  have hV0 := hV.1
  have hms := lk_R_ms hR (s := σ) rfl
  have hN53 : σ 1 0 53 = nI n := by rw [← hms, lk_r0 rfl rfl]; exact hV0
  have hRc := lk_R_c hR
  by_cases hi : 0 ≤ i ∧ i ≤ 3
  · obtain ⟨j, hj, rfl⟩ := nI_of2 (M := 3) (n := 3) rfl (Int32.not_lt.mpr hi.1) hi.2
    have h8 := tX8_why_ok l X d σ τ j hj
    rw [hR.2.2.1 j hj] at h8
    rcases (show j = 0 ∨ j = 1 ∨ j = 2 ∨ j = 3 by omega) with rfl | rfl | rfl | rfl
    · exact lk_pp h8 (lk_pf (tX9_why_0 l X d2 σ τ) hRc)
    · exact lk_pp h8 (lk_pf (tX9_why_1 l X d2 σ τ) hRc)
    · exact lk_pp h8 (lk_pf (tX9_why_2 l X d2 σ τ) hRc)
    · exact lk_pp h8 (lk_pf (tX9_why_3 l X d2 σ τ) hRc)
  · exact lk_pp (tX8_why_bad l X d σ τ i (lk_nbm hi)) (lk_pf (tX9_why_bad l X d2 σ τ i hi) hRc)

theorem pp_water (l : Launch) (X : lk_G) (d d2 : Nat) (σ : lk_N) (τ : lk_T) (n nf nt c : Nat) (hR : lk_R σ τ n nf nt c) : lk_Mt l X mX8_water (d + 1) [lk_vr 0 0] σ τ (lk_PP l X mX9_water d2 [lk_vr 1 0] c) := by
  have ha := hR.1.1
  have hV := ha.1
  have hn6 := hV.2.2.1
  have hV0 := hV.1
  have hms := lk_R_ms hR (s := σ) rfl
  have hN53 : σ 1 0 53 = nI n := by rw [← hms, lk_r0 rfl rfl]; exact hV0
  have hRc := lk_R_c hR
  exact lk_pp (tX8_water l X d σ τ n hV) (lk_pfm hms (tX9_water l X d2 σ τ (σ 2) (σ 3) n hV) hRc)

theorem pp_levels (l : Launch) (X : lk_G) (d d2 : Nat) (σ : lk_N) (τ : lk_T) (n nf nt c : Nat) (hR : lk_R σ τ n nf nt c) (i : Int32) : lk_Mt l X mX8_levels (d + 1) [lk_vr 0 0, lk_vi i] σ τ (lk_PP l X mX9_levels (d2 + 1) [lk_vr 1 0, lk_vi i] c) := by
  have ha := hR.1.1
  have hV := ha.1
  have hn6 := hV.2.2.1
  have hV0 := hV.1
  have hms := lk_R_ms hR (s := σ) rfl
  have hN53 : σ 1 0 53 = nI n := by rw [← hms, lk_r0 rfl rfl]; exact hV0
  have hRc := lk_R_c hR
  by_cases hi : i < -1
  · exact lk_pp (tX8_levels_bad l X d σ τ i hi) (lk_pf (tX9_levels_bad l X d2 σ τ i hi) hRc)
  · have hw : ∀ r, r < n + 1 → 0 ≤ (σ 2 6 r).toInt ∧ (σ 2 6 r).toInt ≤ 9999 := fun r hr => by
      have a := ha.2.1 r (by omega)
      have b := ha.2.2.1 r (by omega)
      have a1 := Int32.le_iff_toInt_le.mp a.1
      have a2 := Int32.le_iff_toInt_le.mp a.2
      omega
    exact lk_pp (tX8_levels_ok l X d σ τ n hV i (Int32.not_lt.mp hi)) (lk_pfm hms (tX9_levels_ok l X d2 σ τ (σ 2) (σ 3) n hV hw i (Int32.not_lt.mp hi)) hRc)

theorem pp_tally (l : Launch) (X : lk_G) (d d2 : Nat) (σ : lk_N) (τ : lk_T) (n nf nt c : Nat) (hR : lk_R σ τ n nf nt c) (i w : Int32) : lk_Mt l X mX8_tally (d + 1) [lk_vr 0 0, lk_vi i, lk_vi w] σ τ (lk_PP l X mX9_tally (d2 + 1) [lk_vr 1 0, lk_vi i, lk_vi w] c) := by
  have ha := hR.1.1
  have hV := ha.1
  have hn6 := hV.2.2.1
  have hV0 := hV.1
  have hms := lk_R_ms hR (s := σ) rfl
  have hN53 : σ 1 0 53 = nI n := by rw [← hms, lk_r0 rfl rfl]; exact hV0
  have hRc := lk_R_c hR
  have hz := hR.1.2.2.1
  have hT : ∀ k, k < 118 → 0 ≤ σ 3 0 k := fun k hk => Int32.le_iff_toInt_le.mpr (by rw [show (0 : Int32).toInt = 0 from rfl]; exact (hR.1.2.2.2.1 k hk).1)
  by_cases hw : 0 ≤ w ∧ w ≤ 2
  · obtain ⟨j, hj, rfl⟩ := nI_of2 (M := 2) (n := 2) rfl (Int32.not_lt.mpr hw.1) hw.2
    rcases (show j = 0 ∨ j = 1 ∨ j = 2 by omega) with rfl | rfl | rfl
    · exact lk_pp (tX8_tally_0 l X d σ τ i) (lk_pfm hms (tX9_tally_0 l X d2 σ τ (σ 2) (σ 3) i hz.1 hz.2 hT) hRc)
    · exact lk_pp (tX8_tally_1 l X d σ τ i) (lk_pfm hms (tX9_tally_1 l X d2 σ τ (σ 2) (σ 3) i hz.1 hz.2 hT) hRc)
    · exact lk_pp (tX8_tally_2 l X d σ τ i) (lk_pfm hms (tX9_tally_2 l X d2 σ τ (σ 2) (σ 3) i hz.1 hz.2) hRc)
  · exact lk_pp (tX8_tally_bad l X d σ τ i w (lk_nbm hw)) (lk_pf (tX9_tally_bad l X d2 σ τ i w hw) hRc)

theorem pp_count (l : Launch) (X : lk_G) (d d2 : Nat) (σ : lk_N) (τ : lk_T) (n nf nt c : Nat) (hR : lk_R σ τ n nf nt c) (w : Int32) : lk_Mt l X mX8_count (d + 1) [lk_vr 0 0, lk_vi w] σ τ (lk_PP l X mX9_count d2 [lk_vr 1 0, lk_vi w] c) := by
  have ha := hR.1.1
  have hV := ha.1
  have hn6 := hV.2.2.1
  have hV0 := hV.1
  have hms := lk_R_ms hR (s := σ) rfl
  have hN53 : σ 1 0 53 = nI n := by rw [← hms, lk_r0 rfl rfl]; exact hV0
  have hRc := lk_R_c hR
  have hfk := hR.1.2.2.2.2
  have hn11 := hfk.1
  have hn12 := hfk.2.1
  have hm114 := hfk.2.2.1
  have hbv : lk_bv σ (σ 11) nf := hfk.2.2.2.1
  
  have hz := hR.1.2.2.1
  by_cases hw : w.toInt < 0 ∨ 5 < w.toInt
  · exact lk_pp (tX8_count_bad l X d σ τ w hw) (lk_pf (tX9_count_bad l X d2 σ τ w hw) hRc)
  · obtain ⟨j, hj, rfl⟩ := nI_of2 (x := w) (M := 5) (n := 5) rfl (fun q => hw (Or.inl (by have := Int32.lt_iff_toInt_lt.mp q; rwa [show (0 : Int32).toInt = 0 from rfl] at this))) (Int32.le_iff_toInt_le.mpr (by rw [show (5 : Int32).toInt = 5 from rfl]; omega))
    rcases (show j = 0 ∨ j = 1 ∨ j = 2 ∨ j = 3 ∨ j = 4 ∨ j = 5 by omega) with rfl | rfl | rfl | rfl | rfl | rfl
    · exact lk_pp (tX8_count_0 l X d σ τ) (lk_pfm hms (tX9_count_0 l X d2 σ τ (σ 2) (σ 3)) hRc)
    · have h8 := tX8_count_1 l X d σ τ
      rw [hn11, ← hm114] at h8
      exact lk_pp h8 (lk_pfm hms (tX9_count_1 l X d2 σ τ (σ 2) (σ 3)) hRc)
    · have h8 := tX8_count_2 l X d σ τ
      rw [hR.2.1.1, ← hR.2.1.2.2.1] at h8
      exact lk_pp h8 (lk_pfm hms (tX9_count_2 l X d2 σ τ (σ 2) (σ 3)) hRc)
    · have h8 := tX8_count_3 l X d σ τ
      rw [lk_tup_108] at h8
      exact lk_pp h8 (lk_pfm hms (tX9_count_3 l X d2 σ τ (σ 2) (σ 3) hz.1 hz.2) hRc)
    · exact lk_pp (tX8_count_4 l X d σ τ) (lk_pfm hms (tX9_count_4 l X d2 σ τ (σ 2) (σ 3)) hRc)
    · exact lk_pp (tX8_count_5 l X d σ τ n hV) (lk_pfm hms (tX9_count_5 l X d2 σ τ (σ 2) (σ 3) n hV) hRc)

theorem pp_account (l : Launch) (X : lk_G) (d d2 : Nat) (σ : lk_N) (τ : lk_T) (n nf nt c : Nat) (hR : lk_R σ τ n nf nt c) : lk_Mt l X mX8_account d [lk_vr 0 0] σ τ (lk_PP l X mX9_account d2 [lk_vr 1 0] c) := by
  have ha := hR.1.1
  have hV := ha.1
  have hn6 := hV.2.2.1
  have hV0 := hV.1
  have hms := lk_R_ms hR (s := σ) rfl
  have hN53 : σ 1 0 53 = nI n := by rw [← hms, lk_r0 rfl rfl]; exact hV0
  have hRc := lk_R_c hR
  have h8 := tX8_account l X d σ τ
  rw [hR.2.2.2.1] at h8
  exact lk_pp h8 (lk_pf (tX9_account l X d2 σ τ) hRc)

theorem pp_pays (l : Launch) (X : lk_G) (d d2 : Nat) (σ : lk_N) (τ : lk_T) (n nf nt c : Nat) (hR : lk_R σ τ n nf nt c) (a v : Int64) : lk_Mt l X mX8_pays d [lk_vr 0 0, lk_vl a, lk_vl v] σ τ (lk_PP l X mX9_pays (d2 + 1) [lk_vr 1 0, lk_vl a, lk_vl v] c) := by
  have ha := hR.1.1
  have hV := ha.1
  have hn6 := hV.2.2.1
  have hV0 := hV.1
  have hms := lk_R_ms hR (s := σ) rfl
  have hN53 : σ 1 0 53 = nI n := by rw [← hms, lk_r0 rfl rfl]; exact hV0
  have hRc := lk_R_c hR
  obtain ⟨hI, ht, hcs, hac, him⟩ := hR
  rcases hb : lk_pbad (τ 0 3) a v with _ | _
  · have hb9 : lk_pbad ((lk_ut τ 0 3 (τ 0 3 + a * v)) 1 4) a v = false := by rw [show (lk_ut τ 0 3 (τ 0 3 + a * v)) 1 4 = τ 1 4 from rfl, ← hac]; exact hb
    exact lk_pp (tX8_pays_ok l X d σ τ a v hb) (lk_pf (tX9_pays_ok l X d2 σ _ a v hb9) ⟨n, nf, nt, lk_RI_c hI, ht, hcs, by show τ 0 3 + a * v = τ 1 4 + a * v; rw [hac], lk_img9_e him rfl rfl rfl rfl rfl rfl rfl rfl⟩)
  · exact lk_pp (tX8_pays_over l X d σ τ a v hb) (lk_pf (tX9_pays_over l X d2 σ τ a v (by rw [← hac]; exact hb)) hRc)
