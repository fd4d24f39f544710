theorem lk_R_all {σ s : lk_N} {τ : lk_T} {n nf nt c : Nat} {V T : lk_O} {N1 : Nat → Int32} (hR : lk_R σ τ n nf nt c) (h2 : s 2 = V) (h3 : s 3 = T) (hN : s 1 0 = lk_mw V T N1) (hN1 : ∀ i, (i < 54 ∨ 114 < i) → N1 i = σ 1 0 i) (hall : lk_all V n)
    (hT : ∀ k, k < 118 → 0 ≤ (T 0 k).toInt ∧ (T 0 k).toInt ≤ 60 * (c + 1 : Nat)) (hf : lk_fok n nf N1 (s 11)) (hcs : lk_cse s) (hk : ∀ o f i, lk_rl o f = true → ¬ (o = 2 ∨ o = 3 ∨ o = 4 ∨ o = 11) → ¬ (o = 1 ∧ (f = 0 ∨ f = 11)) → s o f i = σ o f i) : lk_Rel s τ (c + 1) := by
  obtain ⟨⟨g1, g2, g3, g4, g5⟩, hb, _, h4, h5⟩ := hR
  have e (o : Nat) (ho : ∀ f, lk_rl o f = true) (a : ¬ (o = 2 ∨ o = 3 ∨ o = 4 ∨ o = 11)) (d : ¬ o = 1) : s o = σ o := funext fun f => funext fun i => hk o f i (ho f) a (fun z => d z.1)
  have f1 (f : Nat) (hf : lk_rl 1 f = true) (h0 : ¬ (f = 0 ∨ f = 11)) : s 1 f = σ 1 f := funext fun i => hk 1 f i hf (by decide) (fun z => h0 z.2)
  have hmw : lk_mw V T (lk_mw V T N1) = lk_mw V T N1 := by
    have q : ∀ N, lk_mw V T N = fun i => lk_ms (fun _ _ => N) V T 1 0 i := fun N => funext fun i => (lk_ms_r (σ := fun _ _ => N) i).symm
    funext i
    by_cases c : i < 54 ∨ (115 ≤ i ∧ i < 233)
    · exact lk_mw_lo c
    · exact lk_mw_hi c
  refine ⟨n, nf, nt, ⟨by rw [h2]; exact hall, by rw [h2, h3, hN]; exact hmw, ⟨?_, ?_⟩, by rw [h3]; exact hT, ?_⟩, lk_tpe_e hb (e 14 (fun f => by simp [lk_rl]) (by decide) (by decide)) (congrFun (f1 12 rfl (by decide)) 0) (f1 13 rfl (by decide)), hcs, h4, ?_⟩
  · rw [hN, lk_mw_hi (by decide), hN1 233 (by decide)]; exact g3.1
  · rw [hN, lk_mw_hi (by decide), hN1 234 (by decide)]; exact g3.2
  · rw [hN]; exact lk_fok_N hf (fun i h1 h2 => lk_mw_hi (by omega))
  · exact lk_img9_e h5 (hk 0 7 0 rfl (by decide) (by decide)) (congrFun (f1 3 rfl (by decide)) 0) (f1 1 rfl (by decide)) (e 5 (fun f => by simp [lk_rl]) (by decide) (by decide)) (e 6 (fun f => by simp [lk_rl]) (by decide) (by decide)) (e 13 (fun f => by simp [lk_rl]) (by decide) (by decide)) rfl rfl
theorem lk_fok_4 {n nf b r : Nat} {N : Nat → Int32} {B : lk_O} (h : lk_fok n nf N B) (hb : b < nf) (hr : r ≤ n) : lk_fok n nf (fun i => if i = 102 + b then nI r else N i) (lk_ou B 4 b (nI r)) := by
  obtain ⟨k1, k2, k3, k4, k5, k6, k7⟩ := h
  refine ⟨by rw [lk_ou_ne (by omega)]; exact k1, k2, by show (if (114 : Nat) = 102 + b then _ else _) = _; rw [if_neg (by omega)]; exact k3, fun x hx => ?_, fun i hi => by rw [lk_ou_ne (by omega)]; exact k5 i hi, fun x hx => ?_, fun x y hxy hy => by rw [lk_ou_ne (by omega), lk_ou_ne (by omega)]; exact k7 x y hxy hy⟩
  · have := k4 x hx
    rw [lk_ou_ne (by omega), lk_ou_ne (by omega), lk_ou_ne (by omega), lk_ou_ne (by omega)]
    refine ⟨(if_neg (by omega)).trans this.1, (if_neg (by omega)).trans this.2.1, (if_neg (by omega)).trans this.2.2.1, (if_neg (by omega)).trans this.2.2.2.1, ?_⟩
    by_cases e : x = b
    · subst e; rw [lk_ou_eq]; exact if_pos rfl
    · rw [lk_ou_ne (by omega)]; exact (if_neg (by omega)).trans this.2.2.2.2
  · rw [lk_ou_ne (by omega), lk_ou_ne (by omega)]
    refine ⟨(k6 x hx).1, (k6 x hx).2.1, ?_⟩
    by_cases e : x = b
    · subst e; exact ⟨r, hr, lk_ou_eq _ _ _ _⟩
    · rw [lk_ou_ne (by omega)]; exact (k6 x hx).2.2
theorem lk_fok_up {n nf b r : Nat} {σ : lk_N} {B : lk_O} (h : lk_fok n nf (σ 1 0) B) (hb : b < nf) (hr : r ≤ n) {N1 : Nat → Int32} (hx : ∀ x, ¬ x = 102 + b → N1 x = σ 1 0 x) (hr2 : N1 (102 + b) = nI r) : lk_fok n nf N1 (lk_ou B 4 b (nI r)) := by
  have e : N1 = fun i => if i = 102 + b then nI r else σ 1 0 i := funext fun i => by
    by_cases c : i = 102 + b
    · rw [if_pos c, c, hr2]
    · rw [if_neg c, hx i c]
  rw [e]; exact lk_fok_4 h hb hr
theorem lk_cse_k {s : lk_N} {K : lk_O} {k : Nat} {q : Int32 × Nat × Int32} (h4 : s 4 = lk_kau K (nI k) q) (h : s 1 10 0 = 1 ∧ s 1 11 0 = nI k ∧ s 1 11 1 = q.1 ∧ s 1 11 2 = nI q.2.1 ∧ s 1 11 3 = q.2.2) : lk_cse s := by
  intro i hi
  rw [h4, h.1, if_neg (by decide)]
  rcases (show i = 0 ∨ i = 1 ∨ i = 2 ∨ i = 3 by omega) with rfl | rfl | rfl | rfl
  · rw [h.2.1]; simp [lk_cnum, lk_kau, lk_ou]
  · rw [h.2.2.1]; simp [lk_cnum, lk_kau, lk_ou]
  · rw [h.2.2.2.1]; simp [lk_cnum, lk_kau, lk_ou]
  · rw [h.2.2.2.2]; simp [lk_cnum, lk_kau, lk_ou]
theorem lk_cse_j {σ s : lk_N} {j : Option (Nat × Int32 × Nat × Int32)} {V T : lk_O} (hcs : lk_cse σ) (h4 : s 4 = lk_fK (σ 4) (j, V, T)) (hk : lk_kz σ s j) : lk_cse s := by
  cases j with
  | none => exact lk_cse_e hcs h4 hk.1 hk.2
  | some z => exact lk_cse_k h4 hk
/-! how much a tally grows -/
def lk_tb (T : lk_O) (M : Nat) : Prop := ∀ k, k < 118 → 0 ≤ (T 0 k).toInt ∧ (T 0 k).toInt ≤ M
theorem lk_tb_w {T : lk_O} {M M' : Nat} (h : lk_tb T M) (hM : M ≤ M') : lk_tb T M' := fun k hk => by have := h k hk; constructor <;> omega
theorem lk_tb_tad {T : lk_O} {M : Nat} {s : Int32} (h : lk_tb T M) (hM : M ≤ 900000000) : lk_tb (lk_tad T s) (M + 1) := by
  intro k hk
  unfold lk_tad
  split
  · have := h k hk; omega
  · simp only [lk_ou]
    split
    · rename_i hs _
      have hv := lk_tin (fun z => hs (Or.inl z)) (fun z => hs (Or.inr z))
      have hj := h _ (Nat.not_le.mp fun q => hv (Or.inr q))
      rw [lk_ta rfl (show (1 : Int32).toInt = 1 from rfl) (by omega) (by omega) (by decide) (by decide)]
      omega
    · have := h k hk; omega
theorem lk_tb_trv {up : Bool} {z : Int32} : ∀ (ks : List Nat) (V T : lk_O) (M : Nat), M + ks.length ≤ 900000000 → lk_tb T M → lk_tb (lk_trv up z ks V T).2.2.2 (M + ks.length)
  | [], V, T, M, _, h => h
  | k :: ks, V, T, M, hM, h => by
    unfold lk_trv
    cases lk_pas V k up z with
    | inr q => exact lk_tb_w h (by omega)
    | inl V' =>
      have := lk_tb_trv (up := up) (z := z) ks V' _ (M + 1) (by simp only [List.length_cons] at hM; omega) (lk_tb_tad (s := V 6 (k + 1) - V' 6 (k + 1)) h (by omega))
      exact lk_tb_w this (by simp only [List.length_cons]; omega)
theorem lk_lks_len {up : Bool} {a n : Nat} (ha : a ≤ n) : (lk_lks up a n).length ≤ n := by cases up <;> simp [lk_lks] <;> omega
theorem lk_tb_dyl {n u e : Nat} (hn : n ≤ 6) : ∀ (m a b : Nat) (V T : lk_O) (M : Nat), M + 6 * m ≤ 900000000 → lk_tb T M → lk_tb (lk_dyl n u e m a b V T).2.2.2 (M + 6 * m)
  | 0, _, _, V, T, M, _, h => h
  | m + 1, a, b, V, T, M, hM, h => by
    unfold lk_dyl
    have hl := lk_lks_len (up := lk_way u e a b) (a := if lk_way u e a b = true then 0 else n) (n := n) (by split <;> omega)
    have ht := lk_tb_trv (up := lk_way u e a b) (z := 0) (lk_lks (lk_way u e a b) (if lk_way u e a b = true then 0 else n) n) V T M (by omega) h
    rcases hv : lk_trv (lk_way u e a b) 0 (lk_lks (lk_way u e a b) (if lk_way u e a b = true then 0 else n) n) V T with ⟨i, _ | q, V', T'⟩
    · rw [hv] at ht
      have := lk_tb_dyl (u := u) (e := e) hn m (if lk_way u e a b = true then a + 1 else a) (if lk_way u e a b = true then b else b + 1) V' T' (M + 6) (by omega) (lk_tb_w ht (by omega))
      exact lk_tb_w this (by omega)
    · rw [hv] at ht
      exact lk_tb_w ht (by omega)
theorem lk_trv_cnt {up : Bool} {z : Int32} : ∀ (ks : List Nat) (V T : lk_O), (lk_trv up z ks V T).1 ≤ ks.length
  | [], _, _ => Nat.le_refl _
  | k :: ks, V, T => by
    unfold lk_trv
    cases lk_pas V k up z with
    | inr q => exact Nat.zero_le _
    | inl V' => have := lk_trv_cnt (up := up) (z := z) ks V' (lk_tad T (V 6 (k + 1) - V' 6 (k + 1))); simp only [List.length_cons]; omega
theorem lk_tb_c {T : lk_O} {c : Nat} (h : ∀ k, k < 118 → 0 ≤ (T 0 k).toInt ∧ (T 0 k).toInt ≤ 60 * c) : lk_tb T (60 * c) := fun k hk => by have := h k hk; constructor <;> omega
theorem lk_tb_60 {T : lk_O} {c M : Nat} (h : lk_tb T M) (hM : M ≤ 60 * c + 60) : ∀ k, k < 118 → 0 ≤ (T 0 k).toInt ∧ (T 0 k).toInt ≤ 60 * (c + 1 : Nat) := fun k hk => by have := h k hk; constructor <;> omega
theorem lk_fl_10 (j : lk_J) : ∀ f i, f < 10 → lk_fl j f i = j.2.1 f i := by
  obtain ⟨_ | q, V, U⟩ := j
  · exact fun f i _ => rfl
  · exact fun f i hf => lk_ou_ne (by omega)
theorem pp_pass (l : Launch) (X : lk_G) (d d2 : Nat) (σ : lk_N) (τ : lk_T) (n nf nt c : Nat) (hR : lk_R σ τ n nf nt c) (hc : c ≤ 1000000) (b : Int32) : lk_Mt l X mX8_pass (d + 3) [lk_vr 0 0, lk_vi b] σ τ (lk_PP l X mX9_pass (d2 + 5) [lk_vr 1 0, lk_vi b] c) := by
  have ha := hR.1.1
  have hV := ha.1
  have hn6 := hV.2.2.1
  have hV0 := hV.1
  have hms := lk_R_ms hR (s := σ) rfl
  have hN53 : σ 1 0 53 = nI n := by rw [← hms, lk_r0 rfl rfl]; exact hV0
  have hRc := lk_R_c hR
  have hfk := hR.1.2.2.2.2
  have hn11 := hfk.1
  have hn12 := hfk.2.1
  have hm114 := hfk.2.2.1
  have hbv : lk_bv σ (σ 11) nf := hfk.2.2.2.1
  have hmb := lk_mb_BM σ
  have hBe := lk_BM_e hfk
  have hB5 : lk_BM (σ 1 0) 5 0 = nI nf := (lk_BM_5 _).trans hm114
  
  rcases lk_ix (k := b) (n := nf) (by omega) with ⟨j, hj, rfl⟩ | ⟨h1, h2⟩
  · have hrow := hbv j hj
    have hz := (hfk.2.2.2.2.2.1 j hj).1
    obtain ⟨r, hrn, hr4⟩ := (hfk.2.2.2.2.2.1 j hj).2.2
    rcases (hfk.2.2.2.2.1 j (by omega)).symm with hw | hw
    · rcases Nat.lt_or_ge r n with hlt | hge
      · rcases hp : lk_pas (σ 2) r true (σ 11 1 j) with V | q
        · obtain ⟨sp, hsp⟩ : ∃ x, x = σ 2 6 (r + 1) - V 6 (r + 1) := ⟨_, rfl⟩
          have h8 := tX8_pass_ok_up l X d σ τ n hV nf j hn11 hj hn12 r hlt (σ 11 1 j) hw hr4 rfl hz.1 hz.2 V hp
          rw [hr4, show nI r + 1 = nI (r + 1) from nI_add r 1] at h8
          obtain ⟨σ1, hσ1⟩ : ∃ s : lk_N, s = lk_up (lk_s2 σ 2 V (lk_tad (σ 3) (σ 2 6 (r + 1) - V 6 (r + 1)))) 11 4 j (nI (r + 1)) := ⟨_, rfl⟩
          rw [← hσ1] at h8
          have e1 : σ1 1 = σ 1 := by rw [hσ1]; rfl
          have h9 := tX9_pass_ok_up l X d2 σ1 τ (σ 2) (σ 3) nf j (by rw [e1]; exact hm114) hj hn12 n r (σ 11 1 j) hV ha.2.1 hlt (by rw [e1]; exact hrow.2.2.2.1.trans hw) (by rw [e1]; exact hrow.2.2.2.2.trans hr4) (by rw [e1]; exact hrow.2.1) hz.1 hz.2 V hp
          have s2 : ∀ f, σ1 2 f = V f := fun f => by rw [hσ1]; funext i; simp only [lk_up]; rw [if_neg (by omega), lk_s2_c]
          have s3 : ∀ f, σ1 3 f = lk_tad (σ 3) (σ 2 6 (r + 1) - V 6 (r + 1)) f := fun f => by rw [hσ1]; funext i; simp only [lk_up]; rw [if_neg (by omega)]; exact congrFun (congrFun (lk_s2_t σ 2 V _) f) i
          have s11 : σ1 11 = lk_ou (σ 11) 4 j (nI (r + 1)) := by rw [hσ1, lk_up_so, lk_so_eq, lk_s2_ne (by decide) (by decide)]
          have so : ∀ o f i, ¬ o = 2 → ¬ o = 3 → ¬ o = 11 → σ1 o f i = σ o f i := fun o f i a b c => by rw [hσ1]; simp only [lk_up]; rw [if_neg (by omega), lk_s2_ne (by omega) (by omega)]
          obtain ⟨T', hT'⟩ : ∃ T', T' = lk_tad (σ 3) (σ 2 6 (r + 1) - V 6 (r + 1)) := ⟨_, rfl⟩
          have htb : lk_tb T' (60 * c + 1) := by rw [hT']; exact lk_tb_tad (lk_tb_c hR.1.2.2.2.1) (by omega)
          rw [← hT'] at h9 s3
          have ho2 : ∀ o f i, ¬ (o = 1 ∧ (f = 0 ∨ f = 6)) → (lk_ms (lk_up (lk_up σ1 1 6 0 (σ 2 6 (r + 1) - V 6 (r + 1))) 1 0 (102 + j) (nI (r + 1))) V T') o f i = σ1 o f i := fun o f i h => by
            rw [lk_rf (by omega)]
            simp only [lk_up]
            rw [if_neg (by omega), if_neg (by omega)]
          refine lk_pp h8 (lk_pfn (lk_R_ms hR (by rw [e1])) h9 (lk_R_all hR (V := V) (T := T') (N1 := fun i => if i = 102 + j then nI (r + 1) else σ 1 0 i) ?_ ?_ ?_ (fun i hi => if_neg (by omega)) (lk_all_pas ha hlt hz.1 hz.2 hp) (lk_tb_60 htb (by omega)) ?_ ?_ (fun o f i ho a b => ?_)))
          · funext f i; rw [ho2 2 f i (by omega), s2]
          · funext f i; rw [ho2 3 f i (by omega), s3]
          · funext i
            rw [lk_ms_r]
            congr 1
            funext x
            simp only [lk_up]
            by_cases e : x = 102 + j
            · simp [e]
            · simp [e, e1]
          · rw [show (lk_ms (lk_up (lk_up σ1 1 6 0 (σ 2 6 (r + 1) - V 6 (r + 1))) 1 0 (102 + j) (nI (r + 1))) V T') 11 = lk_ou (σ 11) 4 j (nI (r + 1)) from by rw [← s11]; funext f i; exact ho2 11 f i (by omega)]
            exact lk_fok_4 hfk hj (by omega)
          · refine lk_cse_e hR.2.2.1 ?_ ?_ ?_
            · funext f i; rw [ho2 4 f i (by omega), so 4 f i (by decide) (by decide) (by decide)]
            · rw [ho2 1 10 0 (by omega), e1]
            · funext i; rw [ho2 1 11 i (by omega), e1]
          · by_cases h6 : o = 1 ∧ f = 6
            · obtain ⟨rfl, rfl⟩ := h6; simp [lk_rl] at ho
            · rw [ho2 o f i (by omega), so o f i (by omega) (by omega) (by omega)]
        · have h8 := tX8_pass_bar_up l X d σ τ n hV nf j hn11 hj hn12 r hlt (σ 11 1 j) hw hr4 rfl hz.1 hz.2 q hp
          obtain ⟨σ1, hσ1⟩ : ∃ s : lk_N, s = lk_so σ 4 (lk_kau (σ 4) (nI r) q) := ⟨_, rfl⟩
          rw [← hσ1] at h8
          have e1 : σ1 1 = σ 1 := by rw [hσ1]; rfl
          have h9 := tX9_pass_bar_up l X d2 σ1 τ (σ 2) (σ 3) nf j (by rw [e1]; exact hm114) hj hn12 n r (σ 11 1 j) hV ha.2.1 hlt (by rw [e1]; exact hrow.2.2.2.1.trans hw) (by rw [e1]; exact hrow.2.2.2.2.trans hr4) (by rw [e1]; exact hrow.2.1) hz.1 hz.2 q hp
          refine lk_pp h8 (lk_Mt_mono (lk_msx (lk_R_ms hR (by rw [e1])) h9) (fun rr s t ⟨g1, g2, x, g3⟩ => ⟨g1, ?_⟩))
          subst g2; subst g3
          have ho2 : ∀ o f i, ¬ (o = 1 ∧ (f = 0 ∨ f = 6 ∨ f = 7 ∨ f = 8 ∨ f = 9 ∨ f = 10 ∨ f = 11)) → (lk_ms (lk_cau (lk_up (lk_bar σ1 q) 1 6 0 x) r q) (σ 2) (σ 3)) o f i = σ1 o f i := fun o f i h => by
            rw [lk_rf (by omega)]
            simp only [lk_cau, lk_bar, lk_up]
            rw [if_neg (by omega), if_neg (by omega), if_neg (by omega), if_neg (by omega), if_neg (by omega), if_neg (by omega), if_neg (by omega), if_neg (by omega), if_neg (by omega)]
          refine lk_R_all hR (V := σ 2) (T := σ 3) (N1 := σ 1 0) ?_ ?_ ?_ (fun i hi => rfl) ha (lk_T_c hR.1.2.2.2.1) ?_ ?_ (fun o f i ho a b => ?_)
          · funext f i; rw [ho2 2 f i (by omega), hσ1, lk_so_ne (by decide)]
          · funext f i; rw [ho2 3 f i (by omega), hσ1, lk_so_ne (by decide)]
          · funext i; rw [lk_ms_r]; congr 1; funext x; simp [lk_cau, lk_bar, lk_up, e1]
          · rw [show (lk_ms (lk_cau (lk_up (lk_bar σ1 q) 1 6 0 x) r q) (σ 2) (σ 3)) 11 = σ 11 from funext fun f => funext fun i => by rw [ho2 11 f i (by omega), hσ1, lk_so_ne (by decide)]]; exact hfk
          · refine lk_cse_k (K := σ 4) (k := r) (q := q) ?_ ⟨?_, ?_, ?_, ?_, ?_⟩
            · funext f i; rw [ho2 4 f i (by omega), hσ1, lk_so_eq]
            all_goals (rw [lk_rf (by decide)]; simp [lk_cau, lk_up])
          · rw [ho2 o f i ?_, hσ1, lk_so_ne (by omega)]
            rintro ⟨rfl, z⟩
            rcases z with rfl | rfl | rfl | rfl | rfl | rfl | rfl <;> first | (simp [lk_rl] at ho; done) | (exact b ⟨rfl, by decide⟩)
      · have e : r = n := by omega
        subst e
        exact lk_pp (tX8_pass_none_up l X d σ τ r hV nf j hn11 hj hn12 hw hr4) (lk_pfm hms (tX9_pass_none_up l X d2 σ τ (σ 2) (σ 3) nf j hm114 hj hn12 r hV (hrow.2.2.2.1.trans hw) (hrow.2.2.2.2.trans hr4)) hRc)
    · rcases r with _ | k
      · exact lk_pp (tX8_pass_none_dn l X d σ τ n hV nf j hn11 hj hn12 hw hr4) (lk_pfm hms (tX9_pass_none_dn l X d2 σ τ (σ 2) (σ 3) nf j hm114 hj hn12 n hV (hrow.2.2.2.1.trans hw) (hrow.2.2.2.2.trans hr4)) hRc)
      · rcases hp : lk_pas (σ 2) k false (σ 11 1 j) with V | q
        · obtain ⟨sp, hsp⟩ : ∃ x, x = σ 2 6 (k + 1) - V 6 (k + 1) := ⟨_, rfl⟩
          have h8 := tX8_pass_ok_dn l X d σ τ n hV nf j hn11 hj hn12 k (show k < n by omega) (σ 11 1 j) hw hr4 rfl hz.1 hz.2 V hp
          rw [hr4, show nI (k + 1) + (0 - 1) = nI k from (by rw [show (0 - 1 : Int32) = -1 from rfl]; exact lk_m1)] at h8
          obtain ⟨σ1, hσ1⟩ : ∃ s : lk_N, s = lk_up (lk_s2 σ 2 V (lk_tad (σ 3) (σ 2 6 (k + 1) - V 6 (k + 1)))) 11 4 j (nI k) := ⟨_, rfl⟩
          rw [← hσ1] at h8
          have e1 : σ1 1 = σ 1 := by rw [hσ1]; rfl
          have h9 := tX9_pass_ok_dn l X d2 σ1 τ (σ 2) (σ 3) nf j (by rw [e1]; exact hm114) hj hn12 n k (σ 11 1 j) hV ha.2.1 (show k < n by omega) (by rw [e1]; exact hrow.2.2.2.1.trans hw) (by rw [e1]; exact hrow.2.2.2.2.trans hr4) (by rw [e1]; exact hrow.2.1) hz.1 hz.2 V hp
          have s2 : ∀ f, σ1 2 f = V f := fun f => by rw [hσ1]; funext i; simp only [lk_up]; rw [if_neg (by omega), lk_s2_c]
          have s3 : ∀ f, σ1 3 f = lk_tad (σ 3) (σ 2 6 (k + 1) - V 6 (k + 1)) f := fun f => by rw [hσ1]; funext i; simp only [lk_up]; rw [if_neg (by omega)]; exact congrFun (congrFun (lk_s2_t σ 2 V _) f) i
          have s11 : σ1 11 = lk_ou (σ 11) 4 j (nI k) := by rw [hσ1, lk_up_so, lk_so_eq, lk_s2_ne (by decide) (by decide)]
          have so : ∀ o f i, ¬ o = 2 → ¬ o = 3 → ¬ o = 11 → σ1 o f i = σ o f i := fun o f i a b c => by rw [hσ1]; simp only [lk_up]; rw [if_neg (by omega), lk_s2_ne (by omega) (by omega)]
          obtain ⟨T', hT'⟩ : ∃ T', T' = lk_tad (σ 3) (σ 2 6 (k + 1) - V 6 (k + 1)) := ⟨_, rfl⟩
          have htb : lk_tb T' (60 * c + 1) := by rw [hT']; exact lk_tb_tad (lk_tb_c hR.1.2.2.2.1) (by omega)
          rw [← hT'] at h9 s3
          have ho2 : ∀ o f i, ¬ (o = 1 ∧ (f = 0 ∨ f = 6)) → (lk_ms (lk_up (lk_up σ1 1 6 0 (σ 2 6 (k + 1) - V 6 (k + 1))) 1 0 (102 + j) (nI k)) V T') o f i = σ1 o f i := fun o f i h => by
            rw [lk_rf (by omega)]
            simp only [lk_up]
            rw [if_neg (by omega), if_neg (by omega)]
          refine lk_pp h8 (lk_pfn (lk_R_ms hR (by rw [e1])) h9 (lk_R_all hR (V := V) (T := T') (N1 := fun i => if i = 102 + j then nI k else σ 1 0 i) ?_ ?_ ?_ (fun i hi => if_neg (by omega)) (lk_all_pas ha (show k < n by omega) hz.1 hz.2 hp) (lk_tb_60 htb (by omega)) ?_ ?_ (fun o f i ho a b => ?_)))
          · funext f i; rw [ho2 2 f i (by omega), s2]
          · funext f i; rw [ho2 3 f i (by omega), s3]
          · funext i
            rw [lk_ms_r]
            congr 1
            funext x
            simp only [lk_up]
            by_cases e : x = 102 + j
            · simp [e]
            · simp [e, e1]
          · rw [show (lk_ms (lk_up (lk_up σ1 1 6 0 (σ 2 6 (k + 1) - V 6 (k + 1))) 1 0 (102 + j) (nI k)) V T') 11 = lk_ou (σ 11) 4 j (nI k) from by rw [← s11]; funext f i; exact ho2 11 f i (by omega)]
            exact lk_fok_4 hfk hj (by omega)
          · refine lk_cse_e hR.2.2.1 ?_ ?_ ?_
            · funext f i; rw [ho2 4 f i (by omega), so 4 f i (by decide) (by decide) (by decide)]
            · rw [ho2 1 10 0 (by omega), e1]
            · funext i; rw [ho2 1 11 i (by omega), e1]
          · by_cases h6 : o = 1 ∧ f = 6
            · obtain ⟨rfl, rfl⟩ := h6; simp [lk_rl] at ho
            · rw [ho2 o f i (by omega), so o f i (by omega) (by omega) (by omega)]
        · have h8 := tX8_pass_bar_dn l X d σ τ n hV nf j hn11 hj hn12 k (show k < n by omega) (σ 11 1 j) hw hr4 rfl hz.1 hz.2 q hp
          obtain ⟨σ1, hσ1⟩ : ∃ s : lk_N, s = lk_so σ 4 (lk_kau (σ 4) (nI k) q) := ⟨_, rfl⟩
          rw [← hσ1] at h8
          have e1 : σ1 1 = σ 1 := by rw [hσ1]; rfl
          have h9 := tX9_pass_bar_dn l X d2 σ1 τ (σ 2) (σ 3) nf j (by rw [e1]; exact hm114) hj hn12 n k (σ 11 1 j) hV ha.2.1 (show k < n by omega) (by rw [e1]; exact hrow.2.2.2.1.trans hw) (by rw [e1]; exact hrow.2.2.2.2.trans hr4) (by rw [e1]; exact hrow.2.1) hz.1 hz.2 q hp
          refine lk_pp h8 (lk_Mt_mono (lk_msx (lk_R_ms hR (by rw [e1])) h9) (fun rr s t ⟨g1, g2, x, g3⟩ => ⟨g1, ?_⟩))
          subst g2; subst g3
          have ho2 : ∀ o f i, ¬ (o = 1 ∧ (f = 0 ∨ f = 6 ∨ f = 7 ∨ f = 8 ∨ f = 9 ∨ f = 10 ∨ f = 11)) → (lk_ms (lk_cau (lk_up (lk_bar σ1 q) 1 6 0 x) k q) (σ 2) (σ 3)) o f i = σ1 o f i := fun o f i h => by
            rw [lk_rf (by omega)]
            simp only [lk_cau, lk_bar, lk_up]
            rw [if_neg (by omega), if_neg (by omega), if_neg (by omega), if_neg (by omega), if_neg (by omega), if_neg (by omega), if_neg (by omega), if_neg (by omega), if_neg (by omega)]
          refine lk_R_all hR (V := σ 2) (T := σ 3) (N1 := σ 1 0) ?_ ?_ ?_ (fun i hi => rfl) ha (lk_T_c hR.1.2.2.2.1) ?_ ?_ (fun o f i ho a b => ?_)
          · funext f i; rw [ho2 2 f i (by omega), hσ1, lk_so_ne (by decide)]
          · funext f i; rw [ho2 3 f i (by omega), hσ1, lk_so_ne (by decide)]
          · funext i; rw [lk_ms_r]; congr 1; funext x; simp [lk_cau, lk_bar, lk_up, e1]
          · rw [show (lk_ms (lk_cau (lk_up (lk_bar σ1 q) 1 6 0 x) k q) (σ 2) (σ 3)) 11 = σ 11 from funext fun f => funext fun i => by rw [ho2 11 f i (by omega), hσ1, lk_so_ne (by decide)]]; exact hfk
          · refine lk_cse_k (K := σ 4) (k := k) (q := q) ?_ ⟨?_, ?_, ?_, ?_, ?_⟩
            · funext f i; rw [ho2 4 f i (by omega), hσ1, lk_so_eq]
            all_goals (rw [lk_rf (by decide)]; simp [lk_cau, lk_up])
          · rw [ho2 o f i ?_, hσ1, lk_so_ne (by omega)]
            rintro ⟨rfl, z⟩
            rcases z with rfl | rfl | rfl | rfl | rfl | rfl | rfl <;> first | (simp [lk_rl] at ho; done) | (exact b ⟨rfl, by decide⟩)
  · exact lk_pp (tX8_pass_out l X d σ τ b (by rw [hn11]; exact h1)) (lk_pfm hms (tX9_pass_out l X d2 σ τ (σ 2) (σ 3) b (by rw [hm114]; exact h2)) hRc)
