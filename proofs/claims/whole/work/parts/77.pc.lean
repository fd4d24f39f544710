theorem lk_all_e {V V' : lk_O} {n : Nat} (h : ∀ f i, f < 10 → V' f i = V f i) (ha : lk_all V n) : lk_all V' n := by
  refine ⟨⟨by rw [h 0 0 (by decide)]; exact ha.1.1, ha.1.2.1, ha.1.2.2.1, fun k hk => ?_⟩, lk_rok_e h ha.2.1, lk_rg_e (fun f i hf _ _ _ => h f i hf) ha.2.2⟩
  have := ha.1.2.2.2 k hk
  unfold lk_lok at this ⊢
  rw [h 2 _ (by decide), h 3 _ (by decide), h 4 _ (by decide), h 5 _ (by decide)]
  exact this
theorem lk_mw_e {V V' T : lk_O} {N : Nat → Int32} (h : ∀ f i, f < 10 → V' f i = V f i) : lk_mw V' T N = lk_mw V T N := by
  funext i
  simp only [lk_mw]
  rw [h 2 _ (by decide), h 3 _ (by decide), h 4 _ (by decide), h 5 _ (by decide), h 6 _ (by decide), h 7 _ (by decide), h 8 _ (by decide), h 9 _ (by decide), h 1 _ (by decide), h 0 _ (by decide)]
theorem lk_mw_lo {V T : lk_O} {N N' : Nat → Int32} {i : Nat} (h : i < 54 ∨ (115 ≤ i ∧ i < 233)) : lk_mw V T N' i = lk_mw V T N i := by
  rcases (show (0 ≤ i ∧ i < 6) ∨ (6 ≤ i ∧ i < 12) ∨ (12 ≤ i ∧ i < 18) ∨ (18 ≤ i ∧ i < 24) ∨ (24 ≤ i ∧ i < 31) ∨ (31 ≤ i ∧ i < 38) ∨ (38 ≤ i ∧ i < 45) ∨ (45 ≤ i ∧ i < 52) ∨ (i = 52) ∨ (i = 53) ∨ (115 ≤ i ∧ i < 233) by omega) with h | h | h | h | h | h | h | h | h | h | h
  · simp only [lk_mw]
    rw [if_pos (show i < 6 by omega)]
    rw [if_pos (show i < 6 by omega)]
  · simp only [lk_mw]
    rw [if_neg (show ¬ i < 6 by omega), if_pos (show i < 12 by omega)]
    rw [if_neg (show ¬ i < 6 by omega), if_pos (show i < 12 by omega)]
  · simp only [lk_mw]
    rw [if_neg (show ¬ i < 6 by omega), if_neg (show ¬ i < 12 by omega), if_pos (show i < 18 by omega)]
    rw [if_neg (show ¬ i < 6 by omega), if_neg (show ¬ i < 12 by omega), if_pos (show i < 18 by omega)]
  · simp only [lk_mw]
    rw [if_neg (show ¬ i < 6 by omega), if_neg (show ¬ i < 12 by omega), if_neg (show ¬ i < 18 by omega), if_pos (show i < 24 by omega)]
    rw [if_neg (show ¬ i < 6 by omega), if_neg (show ¬ i < 12 by omega), if_neg (show ¬ i < 18 by omega), if_pos (show i < 24 by omega)]
  · simp only [lk_mw]
    rw [if_neg (show ¬ i < 6 by omega), if_neg (show ¬ i < 12 by omega), if_neg (show ¬ i < 18 by omega), if_neg (show ¬ i < 24 by omega), if_pos (show i < 31 by omega)]
    rw [if_neg (show ¬ i < 6 by omega), if_neg (show ¬ i < 12 by omega), if_neg (show ¬ i < 18 by omega), if_neg (show ¬ i < 24 by omega), if_pos (show i < 31 by omega)]
  · simp only [lk_mw]
    rw [if_neg (show ¬ i < 6 by omega), if_neg (show ¬ i < 12 by omega), if_neg (show ¬ i < 18 by omega), if_neg (show ¬ i < 24 by omega), if_neg (show ¬ i < 31 by omega), if_pos (show i < 38 by omega)]
    rw [if_neg (show ¬ i < 6 by omega), if_neg (show ¬ i < 12 by omega), if_neg (show ¬ i < 18 by omega), if_neg (show ¬ i < 24 by omega), if_neg (show ¬ i < 31 by omega), if_pos (show i < 38 by omega)]
  · simp only [lk_mw]
    rw [if_neg (show ¬ i < 6 by omega), if_neg (show ¬ i < 12 by omega), if_neg (show ¬ i < 18 by omega), if_neg (show ¬ i < 24 by omega), if_neg (show ¬ i < 31 by omega), if_neg (show ¬ i < 38 by omega), if_pos (show i < 45 by omega)]
    rw [if_neg (show ¬ i < 6 by omega), if_neg (show ¬ i < 12 by omega), if_neg (show ¬ i < 18 by omega), if_neg (show ¬ i < 24 by omega), if_neg (show ¬ i < 31 by omega), if_neg (show ¬ i < 38 by omega), if_pos (show i < 45 by omega)]
  · simp only [lk_mw]
    rw [if_neg (show ¬ i < 6 by omega), if_neg (show ¬ i < 12 by omega), if_neg (show ¬ i < 18 by omega), if_neg (show ¬ i < 24 by omega), if_neg (show ¬ i < 31 by omega), if_neg (show ¬ i < 38 by omega), if_neg (show ¬ i < 45 by omega), if_pos (show i < 52 by omega)]
    rw [if_neg (show ¬ i < 6 by omega), if_neg (show ¬ i < 12 by omega), if_neg (show ¬ i < 18 by omega), if_neg (show ¬ i < 24 by omega), if_neg (show ¬ i < 31 by omega), if_neg (show ¬ i < 38 by omega), if_neg (show ¬ i < 45 by omega), if_pos (show i < 52 by omega)]
  · simp only [lk_mw]
    rw [if_neg (show ¬ i < 6 by omega), if_neg (show ¬ i < 12 by omega), if_neg (show ¬ i < 18 by omega), if_neg (show ¬ i < 24 by omega), if_neg (show ¬ i < 31 by omega), if_neg (show ¬ i < 38 by omega), if_neg (show ¬ i < 45 by omega), if_neg (show ¬ i < 52 by omega), if_pos (show i = 52 by omega)]
    rw [if_neg (show ¬ i < 6 by omega), if_neg (show ¬ i < 12 by omega), if_neg (show ¬ i < 18 by omega), if_neg (show ¬ i < 24 by omega), if_neg (show ¬ i < 31 by omega), if_neg (show ¬ i < 38 by omega), if_neg (show ¬ i < 45 by omega), if_neg (show ¬ i < 52 by omega), if_pos (show i = 52 by omega)]
  · simp only [lk_mw]
    rw [if_neg (show ¬ i < 6 by omega), if_neg (show ¬ i < 12 by omega), if_neg (show ¬ i < 18 by omega), if_neg (show ¬ i < 24 by omega), if_neg (show ¬ i < 31 by omega), if_neg (show ¬ i < 38 by omega), if_neg (show ¬ i < 45 by omega), if_neg (show ¬ i < 52 by omega), if_neg (show ¬ i = 52 by omega), if_pos (show i = 53 by omega)]
    rw [if_neg (show ¬ i < 6 by omega), if_neg (show ¬ i < 12 by omega), if_neg (show ¬ i < 18 by omega), if_neg (show ¬ i < 24 by omega), if_neg (show ¬ i < 31 by omega), if_neg (show ¬ i < 38 by omega), if_neg (show ¬ i < 45 by omega), if_neg (show ¬ i < 52 by omega), if_neg (show ¬ i = 52 by omega), if_pos (show i = 53 by omega)]
  · simp only [lk_mw]
    rw [if_neg (show ¬ i < 6 by omega), if_neg (show ¬ i < 12 by omega), if_neg (show ¬ i < 18 by omega), if_neg (show ¬ i < 24 by omega), if_neg (show ¬ i < 31 by omega), if_neg (show ¬ i < 38 by omega), if_neg (show ¬ i < 45 by omega), if_neg (show ¬ i < 52 by omega), if_neg (show ¬ i = 52 by omega), if_neg (show ¬ i = 53 by omega), if_pos (show 115 ≤ i ∧ i < 233 by omega)]
    rw [if_neg (show ¬ i < 6 by omega), if_neg (show ¬ i < 12 by omega), if_neg (show ¬ i < 18 by omega), if_neg (show ¬ i < 24 by omega), if_neg (show ¬ i < 31 by omega), if_neg (show ¬ i < 38 by omega), if_neg (show ¬ i < 45 by omega), if_neg (show ¬ i < 52 by omega), if_neg (show ¬ i = 52 by omega), if_neg (show ¬ i = 53 by omega), if_pos (show 115 ≤ i ∧ i < 233 by omega)]
theorem lk_mw_hi {V T : lk_O} {N : Nat → Int32} {i : Nat} (h : ¬ (i < 54 ∨ (115 ≤ i ∧ i < 233))) : lk_mw V T N i = N i := by
  simp only [lk_mw]
  rw [if_neg (show ¬ i < 6 by omega), if_neg (show ¬ i < 12 by omega), if_neg (show ¬ i < 18 by omega), if_neg (show ¬ i < 24 by omega), if_neg (show ¬ i < 31 by omega), if_neg (show ¬ i < 38 by omega), if_neg (show ¬ i < 45 by omega), if_neg (show ¬ i < 52 by omega), if_neg (show ¬ i = 52 by omega), if_neg (show ¬ i = 53 by omega), if_neg (show ¬ (115 ≤ i ∧ i < 233) by omega)]
theorem lk_mw_N {V T : lk_O} {N N' : Nat → Int32} (hm : lk_mw V T N = N) (h : ∀ i, (i < 54 ∨ (115 ≤ i ∧ i < 233)) → N' i = N i) : lk_mw V T N' = N' := by
  funext i
  by_cases c : i < 54 ∨ (115 ≤ i ∧ i < 233)
  · rw [lk_mw_lo (N := N) c, hm, h i c]
  · exact lk_mw_hi c
theorem lk_fok_N {n nf : Nat} {N N' : Nat → Int32} {B : lk_O} (h : lk_fok n nf N B) (hN : ∀ i, 54 ≤ i → i ≤ 114 → N' i = N i) : lk_fok n nf N' B := by
  obtain ⟨k1, k2, k3, k4, k5, k6, k7⟩ := h
  refine ⟨k1, k2, by rw [hN 114 (by decide) (by decide)]; exact k3, fun b hb => ?_, k5, k6, k7⟩
  have := k4 b hb
  rw [hN _ (by omega) (by omega), hN _ (by omega) (by omega), hN _ (by omega) (by omega), hN _ (by omega) (by omega), hN _ (by omega) (by omega)]
  exact this
theorem lk_RI_N {n nf c : Nat} {N N' : Nat → Int32} {V T B : lk_O} (h : lk_RI n nf N V T B c) (hN : ∀ i, i < 235 → N' i = N i) : lk_RI n nf N' V T B c :=
  ⟨h.1, lk_mw_N h.2.1 (fun i hi => hN i (by omega)), ⟨by rw [hN 233 (by decide)]; exact h.2.2.1.1, by rw [hN 234 (by decide)]; exact h.2.2.1.2⟩, h.2.2.2.1, lk_fok_N h.2.2.2.2 (fun i _ hi => hN i (by omega))⟩
theorem lk_RI_V {n nf c : Nat} {N : Nat → Int32} {V V' T B : lk_O} (h : lk_RI n nf N V T B c) (hV : ∀ f i, f < 10 → V' f i = V f i) : lk_RI n nf N V' T B c :=
  ⟨lk_all_e hV h.1, by rw [lk_mw_e hV]; exact h.2.1, h.2.2.1, h.2.2.2.1, h.2.2.2.2⟩
theorem lk_im_10 (V W : lk_O) : ∀ f i, f < 10 → lk_im V W f i = V f i := fun f i hf => by simp only [lk_im]; rw [if_pos hf]
theorem lk_all_rst {m : Nat} (h1 : 1 ≤ m) (h6 : m ≤ 6) (V : lk_O) : lk_all (lk_rst (nI m) V) m := by
  refine ⟨⟨rfl, h1, h6, fun k hk => ?_⟩, fun r h7 => ?_, ⟨fun r h7 => ?_, ?_, fun r h7 => ?_⟩⟩
  · unfold lk_lok; simp [lk_rst] <;> decide
  · simp [lk_rst] <;> decide
  · simp [lk_rst] <;> decide
  · simp [lk_rst]
  · simp [lk_rst]
theorem lk_bgn_mw {V T : lk_O} {N : Nat → Int32} (v : Int32) (hm : lk_mw V T N = N) : lk_mw (lk_rst v V) T (lk_bgn v N) = lk_bgn v N := by
  funext i
  by_cases c : i < 54 ∨ (115 ≤ i ∧ i < 233)
  · by_cases c2 : i < 54
    · simp only [lk_mw, lk_bgn, lk_rst]
      grind (splits := 40)
    · have e : lk_bgn v N i = N i := by simp only [lk_bgn]; grind
      have e2 := congrFun hm i
      rw [e, ← e2]
      simp only [lk_mw]
      grind
  · exact lk_mw_hi c
/-- the class's fleet and the model's rows -/
theorem lk_fok_mb {n nf : Nat} {N : Nat → Int32} {B Bm : lk_O} (h5 : B 5 0 = nI nf) (h12 : nf ≤ 12) (h5m : Bm 5 0 = nI nf) (he : ∀ f j, f < 5 → j < nf → Bm f j = B f j) (h01 : ∀ i, i < 22 → B 3 i = 0 ∨ B 3 i = 1)
    (hb : ∀ b, b < nf → (0 ≤ (B 1 b).toInt ∧ (B 1 b).toInt ≤ 9) ∧ lk_nok (B 0 b) ∧ ∃ r, r ≤ n ∧ B 4 b = nI r) (hs : ∀ a b, a < b → b < nf → B 0 a < B 0 b) : lk_fok n nf (lk_mbw Bm N) B := by
  have key : ∀ f j, f < 5 → j < nf → lk_mbw Bm N (54 + 12 * f + j) = B f j := fun f j hf hj => by
    simp only [lk_mbw]
    rw [if_pos (by omega), show (54 + 12 * f + j - 54) / 12 = f by omega, show (54 + 12 * f + j - 54) % 12 = j by omega]
    exact he f j hf hj
  refine ⟨h5, h12, by simp [lk_mbw]; exact h5m, fun b hbn => ⟨key 0 b (by decide) hbn, ?_, ?_, ?_, ?_⟩, h01, hb, hs⟩
  · have := key 1 b (by decide) hbn; rwa [show 54 + 12 * 1 + b = 66 + b by omega] at this
  · have := key 2 b (by decide) hbn; rwa [show 54 + 12 * 2 + b = 78 + b by omega] at this
  · have := key 3 b (by decide) hbn; rwa [show 54 + 12 * 3 + b = 90 + b by omega] at this
  · have := key 4 b (by decide) hbn; rwa [show 54 + 12 * 4 + b = 102 + b by omega] at this
theorem lk_BM_e {n nf : Nat} {N : Nat → Int32} {B : lk_O} (h : lk_fok n nf N B) : ∀ f j, f < 5 → j < nf → lk_BM N f j = B f j := fun f j hf hj => by
  have := h.2.2.2.1 j hj
  simp only [lk_BM]
  rw [if_pos hf]
  rcases (show f = 0 ∨ f = 1 ∨ f = 2 ∨ f = 3 ∨ f = 4 by omega) with rfl | rfl | rfl | rfl | rfl
  · exact this.1
  · rw [show 54 + 12 * 1 + j = 66 + j by omega]; exact this.2.1
  · rw [show 54 + 12 * 2 + j = 78 + j by omega]; exact this.2.2.1
  · rw [show 54 + 12 * 3 + j = 90 + j by omega]; exact this.2.2.2.1
  · rw [show 54 + 12 * 4 + j = 102 + j by omega]; exact this.2.2.2.2
theorem lk_BM_5 (N : Nat → Int32) : lk_BM N 5 0 = N 114 := by simp [lk_BM]
theorem lk_mbw_o {Bm : lk_O} {N : Nat → Int32} {i : Nat} (h : i < 54 ∨ 114 < i) : lk_mbw Bm N i = N i := by
  simp only [lk_mbw]; rw [if_neg (by omega), if_neg (by omega)]
/-- the boats change, on both sides -/
theorem lk_R_B {σ s : lk_N} {τ : lk_T} {n nf nf' nt nt' c : Nat} {Bm : lk_O} (hR : lk_R σ τ n nf nt c) (hN : s 1 0 = lk_mbw Bm (σ 1 0)) (h11 : lk_fok n nf' (s 1 0) (s 11)) (ht : lk_tpe s nt')
    (hk : ∀ o f i, lk_rl o f = true → ¬ o = 11 → ¬ o = 14 → ¬ (o = 1 ∧ (f = 0 ∨ f = 12 ∨ f = 13)) → s o f i = σ o f i) (h10 : s 1 10 0 = σ 1 10 0) : lk_Rel s τ (c + 1) := by
  obtain ⟨⟨g1, g2, g3, g4, g5⟩, hb, hcs, h4, h5⟩ := hR
  have e (o : Nat) (ho : ∀ f, lk_rl o f = true) (a : ¬ o = 11) (b : ¬ o = 14) (d : ¬ o = 1) : s o = σ o := funext fun f => funext fun i => hk o f i (ho f) a b (fun z => d z.1)
  have f1 (f : Nat) (hf : lk_rl 1 f = true) (h0 : ¬ (f = 0 ∨ f = 12 ∨ f = 13)) : s 1 f = σ 1 f := funext fun i => hk 1 f i hf (by decide) (by decide) (fun z => h0 z.2)
  have e2 := e 2 (fun f => by simp [lk_rl]) (by decide) (by decide) (by decide)
  have e3 := e 3 (fun f => by simp [lk_rl]) (by decide) (by decide) (by decide)
  refine ⟨n, nf', nt', ⟨by rw [e2]; exact g1, ?_, ⟨by rw [hN, lk_mbw_o (by decide)]; exact g3.1, by rw [hN, lk_mbw_o (by decide)]; exact g3.2⟩, by rw [e3]; exact lk_T_c g4, h11⟩, ht, ?_, h4, ?_⟩
  · rw [e2, e3, hN]; exact lk_mw_N g2 (fun i hi => lk_mbw_o (by omega))
  · exact lk_cse_e hcs (e 4 (fun f => by simp [lk_rl]) (by decide) (by decide) (by decide)) h10 (f1 11 rfl (by decide))
  · exact lk_img9_e h5 (hk 0 7 0 rfl (by decide) (by decide) (by decide)) (congrFun (f1 3 rfl (by decide)) 0) (f1 1 rfl (by decide)) (e 5 (fun f => by simp [lk_rl]) (by decide) (by decide) (by decide)) (e 6 (fun f => by simp [lk_rl]) (by decide) (by decide) (by decide)) (e 13 (fun f => by simp [lk_rl]) (by decide) (by decide) (by decide)) rfl rfl
theorem lk_mbu (σ : lk_N) (B : lk_O) : (lk_mb σ B) 1 0 = lk_mbw B (σ 1 0) := funext fun i => lk_mb_r i
theorem pp_locks (l : Launch) (X : lk_G) (d d2 : Nat) (σ : lk_N) (τ : lk_T) (n nf nt c : Nat) (hR : lk_R σ τ n nf nt c) (v : Int32) : lk_Mt l X mX8_locks (d + 1) [lk_vr 0 0, lk_vi v] σ τ (lk_PP l X mX9_locks (d2 + 1) [lk_vr 1 0, lk_vi v] c) := by
  have ha := hR.1.1
  have hV := ha.1
  have hn6 := hV.2.2.1
  have hV0 := hV.1
  have hms := lk_R_ms hR (s := σ) rfl
  have hN53 : σ 1 0 53 = nI n := by rw [← hms, lk_r0 rfl rfl]; exact hV0
  have hRc := lk_R_c hR
  obtain ⟨hI, ht, hcs, hac, him⟩ := hR
  by_cases hv : 1 ≤ v ∧ v ≤ 6
  · obtain ⟨m, hm6, rfl⟩ := nI_of2 (M := 6) (n := 6) rfl (Int32.not_lt.mpr (Int32.le_trans (by decide) hv.1)) hv.2
    have hm1 : 1 ≤ m := by
      have := Int32.le_iff_toInt_le.mp hv.1
      rw [nI_toInt (by omega), show (1 : Int32).toInt = 1 from rfl] at this
      omega
    have h9 := tX9_locks_ok l X d2 (lk_up (lk_so σ 2 (lk_rst (nI m) (σ 2))) 11 5 0 0) τ (nI m) hv
    rw [show (lk_up (lk_so σ 2 (lk_rst (nI m) (σ 2))) 11 5 0 0) 1 0 53 = σ 2 0 0 from hN53.trans hV0.symm] at h9
    refine lk_pp (tX8_locks_ok l X d σ τ (nI m) (fun q => absurd hv.1 (Int32.not_le.mpr q)) hv.2) (lk_pf h9 ⟨m, 0, nt, ⟨lk_all_rst hm1 hm6 (σ 2), lk_bgn_mw (nI m) hI.2.1, ⟨hI.2.2.1.1, hI.2.2.1.2⟩, lk_T_c hI.2.2.2.1, ?_⟩, lk_tpe_e ht rfl rfl rfl, lk_cse_e hcs rfl rfl rfl, hac, lk_img9_e him rfl rfl rfl rfl rfl rfl rfl rfl⟩)
    exact ⟨rfl, by decide, rfl, fun b hb => absurd hb (by omega), fun i hi => hI.2.2.2.2.2.2.2.2.1 i hi, fun b hb => absurd hb (by omega), fun a b _ hb => absurd hb (by omega)⟩
  · have h2 : v < 1 ∨ 6 < v := by
      by_cases h0 : 1 ≤ v
      · exact Or.inr (Int32.not_le.mp (fun q => hv ⟨h0, q⟩))
      · exact Or.inl (Int32.not_le.mp h0)
    exact lk_pp (tX8_locks_bad l X d σ τ v h2) (lk_pf (tX9_locks_bad l X d2 σ τ v hv) hRc)

theorem pp_image (l : Launch) (X : lk_G) (d d2 : Nat) (σ : lk_N) (τ : lk_T) (n nf nt c : Nat) (hR : lk_R σ τ n nf nt c) : lk_Mt l X mX8_image (d + 4) [lk_vr 0 0] σ τ (lk_PP l X mX9_image (d2 + 1) [lk_vr 1 0] c) := by
  have ha := hR.1.1
  have hV := ha.1
  have hn6 := hV.2.2.1
  have hV0 := hV.1
  have hms := lk_R_ms hR (s := σ) rfl
  have hN53 : σ 1 0 53 = nI n := by rw [← hms, lk_r0 rfl rfl]; exact hV0
  have hRc := lk_R_c hR
  have hfk := hR.1.2.2.2.2
  have hn11 := hfk.1
  have hn12 := hfk.2.1
  have hm114 := hfk.2.2.1
  have hbv : lk_bv σ (σ 11) nf := hfk.2.2.2.1
  
  obtain ⟨hI, ht, hcs, hac, him⟩ := hR
  have h9 := tX9_image l X d2 (lk_img σ) (lk_ut τ 0 6 (τ 0 3))
  rw [show (lk_img σ) 1 0 114 = nI nf from hm114] at h9
  refine lk_pp (tX8_image l X d σ τ nf hn11 (fun k hk => (hV.2.2.2 k hk).2.2.2.2.2.2) hfk.2.2.2.2.1) (lk_pf h9 ⟨n, nf, nt, ?_, lk_tpe_e ht rfl rfl rfl, lk_cse_e hcs rfl rfl rfl, hac, Or.inr ⟨rfl, rfl, ?_, n, nf, ?_⟩⟩)
  · exact lk_RI_c hI
  · show τ 0 3 = τ 1 4; exact hac
  · refine lk_RI_c (lk_RI_V (V := σ 2) (lk_RI_N (N := σ 1 0) hI (fun i hi => ?_)) (lk_im_10 _ _))
    show (if _ then _ else _) = _
    first | (rw [if_pos hi]; rfl) | (rw [if_pos (by simp [hi])]; rfl)

theorem pp_undo (l : Launch) (X : lk_G) (d d2 : Nat) (σ : lk_N) (τ : lk_T) (n nf nt c : Nat) (hR : lk_R σ τ n nf nt c) : lk_Mt l X mX8_undo (d + 4) [lk_vr 0 0] σ τ (lk_PP l X mX9_undo (d2 + 1) [lk_vr 1 0] c) := by
  have ha := hR.1.1
  have hV := ha.1
  have hn6 := hV.2.2.1
  have hV0 := hV.1
  have hms := lk_R_ms hR (s := σ) rfl
  have hN53 : σ 1 0 53 = nI n := by rw [← hms, lk_r0 rfl rfl]; exact hV0
  have hRc := lk_R_c hR
  obtain ⟨hI, ht, hcs, hac, him⟩ := hR
  rcases him with ⟨i0, i3⟩ | ⟨i0, i3, i6, n2, nf2, hI2⟩
  · exact lk_pp (tX8_undo_no l X d σ τ i0) (lk_pf (tX9_undo_no l X d2 σ τ i3) hRc)
  · have h9 := tX9_undo_ok l X d2 (lk_und σ) (lk_ut τ 0 3 (τ 0 6)) i3
    rw [show (lk_und σ) 1 1 114 = nI nf2 from hI2.2.2.2.2.2.2.1] at h9
    refine lk_pp (tX8_undo_ok l X d σ τ nf2 i0 hI2.2.2.2.2.1 (fun k hk => (hI2.1.1.2.2.2 k hk).2.2.2.2.2.2) hI2.2.2.2.2.2.2.2.2.1) (lk_pf h9 ⟨n2, nf2, nt, ?_, lk_tpe_e ht rfl rfl rfl, lk_cse_e hcs rfl rfl rfl, ?_, Or.inr ⟨i0, i3, i6, n2, nf2, ?_⟩⟩)
    · refine lk_RI_c (lk_RI_V (V := σ 5) (lk_RI_N (N := σ 1 1) hI2 (fun i hi => ?_)) (lk_im_10 _ _))
      show (if _ then _ else _) = _
      first | (rw [if_pos hi]; rfl) | (rw [if_pos (by simp [hi])]; rfl)
    · show τ 0 6 = τ 1 5; exact i6
    · exact lk_RI_c hI2

theorem pp_about (l : Launch) (X : lk_G) (d d2 : Nat) (σ : lk_N) (τ : lk_T) (n nf nt c : Nat) (hR : lk_R σ τ n nf nt c) (b : Int32) : lk_Mt l X mX8_about (d + 1) [lk_vr 0 0, lk_vi b] σ τ (lk_PP l X mX9_about (d2 + 2) [lk_vr 1 0, lk_vi b] c) := by
  have ha := hR.1.1
  have hV := ha.1
  have hn6 := hV.2.2.1
  have hV0 := hV.1
  have hms := lk_R_ms hR (s := σ) rfl
  have hN53 : σ 1 0 53 = nI n := by rw [← hms, lk_r0 rfl rfl]; exact hV0
  have hRc := lk_R_c hR
  have hfk := hR.1.2.2.2.2
  have hn11 := hfk.1
  have hn12 := hfk.2.1
  have hm114 := hfk.2.2.1
  have hbv : lk_bv σ (σ 11) nf := hfk.2.2.2.1
  have hmb := lk_mb_BM σ
  have hBe := lk_BM_e hfk
  have hB5 : lk_BM (σ 1 0) 5 0 = nI nf := (lk_BM_5 _).trans hm114
  
  rcases lk_ix (k := b) (n := nf) (by omega) with ⟨j, hj, rfl⟩ | ⟨h1, h2⟩
  · have h3 := hBe 3 j (by decide) hj
    have h01 := hfk.2.2.2.2.1 j (by omega)
    have h8 := tX8_about_ok l X d σ τ nf j hn11 hj hn12
    obtain ⟨x, hx⟩ : ∃ x, x = (if σ 11 3 j = 0 then (1 : Int32) else 0) := ⟨_, rfl⟩
    have hx01 : x = 0 ∨ x = 1 := by rw [hx]; split <;> simp
    have hmb2 : lk_mb (lk_up σ 11 3 j x) (lk_BM (σ 1 0)) = lk_up σ 11 3 j x := lk_mb_BM (lk_up σ 11 3 j x)
    have h9 := tX9_about_ok l X d2 (lk_up σ 11 3 j x) τ (lk_BM (σ 1 0)) nf j hB5 hj hn12 (by rw [h3]; exact h01)
    rw [h3, ← hx] at h9
    rw [← hx] at h8
    refine lk_pp h8 (lk_pfc hmb2 h9 (lk_R_B (nf' := nf) (nt' := nt) hR (Bm := lk_ou (lk_BM (σ 1 0)) 3 j x) (lk_mbu _ _) ?_ ?_ (fun o f i ho a b cc => ?_) ?_))
    · rw [lk_mbu, show (lk_mb (lk_up σ 11 3 j x) (lk_ou (lk_BM (σ 1 0)) 3 j x)) 11 = lk_ou (σ 11) 3 j x from by funext f i; rw [lk_bn (by omega)]; simp [lk_up, lk_ou]]
      refine lk_fok_mb (by rw [lk_ou_ne (by omega)]; exact hn11) hn12 (by rw [lk_ou_ne (by omega)]; exact hB5) (fun f i hf hi => ?_) (fun i hi => ?_) (fun b hb => ?_) (fun a b hab hb => ?_)
      · simp only [lk_ou]; split
        · rfl
        · exact hBe f i hf hi
      · simp only [lk_ou]; split
        · exact hx01
        · exact hfk.2.2.2.2.1 i hi
      · rw [lk_ou_ne (by omega), lk_ou_ne (by omega), lk_ou_ne (by omega)]; exact hfk.2.2.2.2.2.1 b hb
      · rw [lk_ou_ne (by omega), lk_ou_ne (by omega)]; exact hfk.2.2.2.2.2.2 a b hab hb
    · exact lk_tpe_e hR.2.1 (by funext f i; rw [lk_bn (by omega)]; rfl) (by rw [lk_bn (by decide)]; rfl) (by funext i; rw [lk_bn (by decide)]; rfl)
    · rw [lk_bn (by omega)]; simp only [lk_up]; rw [if_neg (by omega)]
    · rw [lk_bn (by decide)]; rfl
  · exact lk_pp (tX8_about_out l X d σ τ b (by rw [hn11]; exact h1)) (lk_pfc hmb (tX9_about_out l X d2 σ τ (lk_BM (σ 1 0)) b (by rw [hB5]; exact h2)) (by rw [hmb]; exact hRc))
