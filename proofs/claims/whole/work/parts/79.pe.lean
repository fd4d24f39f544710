theorem lk_fpl_f {B : lk_O} {w : Int32} : ∀ (m b : Nat), (∀ i, b ≤ i → i < lk_fpl B w m b → B 0 i < w) ∧ (lk_fpl B w m b < b + m → ¬ B 0 (lk_fpl B w m b) < w) ∧ b ≤ lk_fpl B w m b
  | 0, b => ⟨fun i h1 h2 => absurd h2 (by unfold lk_fpl; omega), fun h => absurd h (by unfold lk_fpl; omega), Nat.le_refl _⟩
  | m + 1, b => by
    unfold lk_fpl
    by_cases c : B 0 b < w
    · rw [if_pos c]
      obtain ⟨h1, h2, h3⟩ := lk_fpl_f (B := B) (w := w) m (b + 1)
      refine ⟨fun i hi hl => ?_, fun h => h2 (by omega), by omega⟩
      by_cases e : i = b
      · subst e; exact c
      · exact h1 i (by omega) hl
    · rw [if_neg c]
      exact ⟨fun i h1 h2 => absurd h2 (by omega), fun _ => c, Nat.le_refl _⟩
/-- class's fleet and model's rows on their way -/
def lk_fgd (n nb : Nat) (B C : lk_O) : Prop := B 5 0 = nI nb ∧ C 5 0 = nI nb ∧ (∀ f j, f < 5 → j < nb → C f j = B f j) ∧ (∀ i, i < 22 → B 3 i = 0 ∨ B 3 i = 1) ∧
  (∀ b, b < nb → (0 ≤ (B 1 b).toInt ∧ (B 1 b).toInt ≤ 9) ∧ lk_nok (B 0 b) ∧ ∃ r, r ≤ n ∧ B 4 b = nI r) ∧ ∀ a b, a < b → b < nb → B 0 a < B 0 b
theorem lk_fput_at {B : lk_O} {nb : Nat} {r : Nat → Int32} {f j : Nat} (hf : f < 5) : lk_fput B nb r f j = if j = lk_fpl B (r 0) nb 0 then r f else if lk_fold B nb (r 0) = true ∨ j < lk_fpl B (r 0) nb 0 ∨ nb < j then B f j else B f (j - 1) := by
  unfold lk_fput
  by_cases hd : lk_fold B nb (r 0) = true
  · rw [if_pos hd]
    simp only [lk_frow]
    by_cases e : j = lk_fpl B (r 0) nb 0
    · rw [if_pos ⟨hf, e⟩, if_pos e]
    · rw [if_neg (fun z => e z.2), if_neg e, if_pos (Or.inl hd)]
  · rw [if_neg hd]
    simp only [lk_frow, lk_fsh]
    by_cases e : j = lk_fpl B (r 0) nb 0
    · rw [if_pos ⟨hf, e⟩, if_pos e]
    · rw [if_neg (fun z => e z.2), if_neg e]
      by_cases c : j < lk_fpl B (r 0) nb 0 ∨ nb < j
      · rw [if_neg (by omega), if_neg (by omega), if_pos (Or.inr c)]
      · rw [if_pos ⟨hf, by omega, by omega⟩, if_neg (by rintro (z | z); exact hd z; exact c z)]
theorem lk_fgd_put {n nb : Nat} {B C : lk_O} {r : Nat → Int32} (h : lk_fgd n nb B C) (hnb : nb < 22) (r1 : 0 ≤ (r 1).toInt ∧ (r 1).toInt ≤ 9) (r0 : lk_nok (r 0)) (r4 : ∃ x, x ≤ n ∧ r 4 = nI x) (r3 : r 3 = 0 ∨ r 3 = 1) :
    lk_fold C nb (r 0) = lk_fold B nb (r 0) ∧ lk_fgd n (lk_fputn B nb (r 0)) (lk_fput B nb r) (lk_fput C nb r) := by
  obtain ⟨h1, h2, h3, h4, h5, h6⟩ := h
  have ep : lk_fpl C (r 0) nb 0 = lk_fpl B (r 0) nb 0 := lk_fpl_c nb 0 (fun i hi => h3 0 i (by decide) (by omega))
  have ed : lk_fold C nb (r 0) = lk_fold B nb (r 0) := lk_fold_c (fun i hi => h3 0 i (by decide) hi)
  obtain ⟨p1, p2, p3⟩ := lk_fpl_f (B := B) (w := r 0) nb 0
  have ple : lk_fpl B (r 0) nb 0 ≤ nb := Nat.le_trans (lk_fpl_le B (r 0) nb 0) (by omega)
  have en : lk_fputn C nb (r 0) = lk_fputn B nb (r 0) := by unfold lk_fputn; rw [ed]
  have hfo : lk_fold B nb (r 0) = true → lk_fpl B (r 0) nb 0 < nb ∧ B 0 (lk_fpl B (r 0) nb 0) = r 0 := fun z => by
    unfold lk_fold at z
    have := Bool.and_eq_true_iff.mp z
    exact ⟨of_decide_eq_true this.1, of_decide_eq_true this.2⟩
  have hfn : ¬ lk_fold B nb (r 0) = true → lk_fpl B (r 0) nb 0 < nb → r 0 < B 0 (lk_fpl B (r 0) nb 0) := fun z q => by
    rcases Int32.lt_or_eq_of_le (Int32.not_lt.mp (p2 (by omega))) with e | e
    · exact e
    · exfalso; apply z; unfold lk_fold; simp [q, e.symm]
  have hN : lk_fputn B nb (r 0) = if lk_fold B nb (r 0) = true then nb else nb + 1 := rfl
  -- where each row comes from
  have src : ∀ j, j < lk_fputn B nb (r 0) → j = lk_fpl B (r 0) nb 0 ∨ ∃ x, x < nb ∧ (∀ f, f < 5 → lk_fput B nb r f j = B f x) ∧ ∀ f, f < 5 → lk_fput C nb r f j = C f x := fun j hj => by
    by_cases e : j = lk_fpl B (r 0) nb 0
    · exact Or.inl e
    · right
      by_cases c : lk_fold B nb (r 0) = true ∨ j < lk_fpl B (r 0) nb 0 ∨ nb < j
      · refine ⟨j, ?_, fun f hf => ?_, fun f hf => ?_⟩
        · rw [hN] at hj; split at hj <;> rcases c with z | z | z <;> first | omega | contradiction
        · rw [lk_fput_at hf, if_neg e, if_pos c]
        · rw [lk_fput_at hf, ep, ed, if_neg e, if_pos c]
      · refine ⟨j - 1, ?_, fun f hf => ?_, fun f hf => ?_⟩
        · rw [hN] at hj; split at hj <;> omega
        · rw [lk_fput_at hf, if_neg e, if_neg c]
        · rw [lk_fput_at hf, ep, ed, if_neg e, if_neg c]
  have atp : ∀ f, f < 5 → lk_fput B nb r f (lk_fpl B (r 0) nb 0) = r f := fun f hf => by rw [lk_fput_at hf, if_pos rfl]
  refine ⟨ed, lk_fput_5 B r h1, by rw [lk_fput_5 C r h2, en], fun f j hf hj => ?_, lk_fput_3 B r hnb h4 r3, fun b hb => ?_, fun a b hab hb => ?_⟩
  · rcases src j hj with rfl | ⟨x, hx, e1, e2⟩
    · rw [atp f hf, lk_fput_at hf, ep, if_pos rfl]
    · rw [e1 f hf, e2 f hf]; exact h3 f x hf hx
  · rcases src b hb with rfl | ⟨x, hx, e1, e2⟩
    · rw [atp 1 (by decide), atp 0 (by decide), atp 4 (by decide)]; exact ⟨r1, r0, r4⟩
    · rw [e1 1 (by decide), e1 0 (by decide), e1 4 (by decide)]; exact h5 x hx
  · -- in order
    have val : ∀ j, j < lk_fputn B nb (r 0) → (j < lk_fpl B (r 0) nb 0 → lk_fput B nb r 0 j = B 0 j ∧ B 0 j < r 0) ∧ (lk_fpl B (r 0) nb 0 < j → ∃ x, x < nb ∧ lk_fput B nb r 0 j = B 0 x ∧ r 0 < B 0 x ∧ lk_fpl B (r 0) nb 0 ≤ x ∧ (lk_fold B nb (r 0) = true → x = j) ∧ (¬ lk_fold B nb (r 0) = true → x + 1 = j)) := fun j hj => by
      refine ⟨fun q => ⟨?_, p1 j (by omega) q⟩, fun q => ?_⟩
      · rw [lk_fput_at (by decide), if_neg (by omega), if_pos (Or.inr (Or.inl q))]
      · by_cases hd : lk_fold B nb (r 0) = true
        · have hj2 : j < nb := by rw [hN, if_pos hd] at hj; exact hj
          have := hfo hd
          exact ⟨j, hj2, by rw [lk_fput_at (by decide), if_neg (by omega), if_pos (Or.inl hd)], by rw [← this.2]; exact h6 _ _ q hj2, by omega, fun _ => rfl, fun z => absurd hd z⟩
        · have hj2 : j < nb + 1 := by rw [hN, if_neg hd] at hj; exact hj
          have hp : lk_fpl B (r 0) nb 0 < nb := by omega
          have hlt := hfn hd hp
          refine ⟨j - 1, by omega, by rw [lk_fput_at (by decide), if_neg (by omega), if_neg (by rintro (z | z); exact hd z; omega)], ?_, by omega, fun z => absurd z hd, fun _ => by omega⟩
          by_cases e : lk_fpl B (r 0) nb 0 = j - 1
          · rw [← e]; exact hlt
          · exact Int32.lt_trans hlt (h6 _ _ (by omega) (by omega))
    have va := val a (by omega)
    have vb := val b hb
    rcases Nat.lt_trichotomy a (lk_fpl B (r 0) nb 0) with qa | qa | qa
    · rcases Nat.lt_trichotomy b (lk_fpl B (r 0) nb 0) with qb | qb | qb
      · rw [(va.1 qa).1, (vb.1 qb).1]; exact h6 a b hab (by omega)
      · rw [(va.1 qa).1, qb, atp 0 (by decide)]; exact (va.1 qa).2
      · obtain ⟨x, hx, e1, e2, _⟩ := vb.2 qb
        rw [(va.1 qa).1, e1]; exact Int32.lt_trans (va.1 qa).2 e2
    · obtain ⟨x, hx, e1, e2, _⟩ := vb.2 (by omega)
      rw [qa, atp 0 (by decide), e1]; exact e2
    · obtain ⟨x, hx, e1, e2, e3, e4, e5⟩ := va.2 qa
      obtain ⟨y, hy, g1, g2, g3, g4, g5⟩ := vb.2 (by omega)
      rw [e1, g1]
      refine h6 x y ?_ hy
      by_cases hd : lk_fold B nb (r 0) = true
      · have := e4 hd; have := g4 hd; omega
      · have := e5 hd; have := g5 hd; omega
/-- the row that a good boat tells -/
theorem lk_rdw_ok {P : lk_O} {n a L : Nat} (hr : ∀ a, a < n → 32 ≤ (P 0 a).toInt ∧ (P 0 a).toInt ≤ 126) (hL : L ≤ 9) (h : (lk_rdb P n a (nI L)).1 = true) :
    (0 ≤ (lk_rdw P n a 1).toInt ∧ (lk_rdw P n a 1).toInt ≤ 9) ∧ lk_nok (lk_rdw P n a 0) ∧ (∃ x, x ≤ L ∧ lk_rdw P n a 4 = nI x) ∧ (lk_rdw P n a 3 = 0 ∨ lk_rdw P n a 3 = 1) := by
  have fig : ∀ b M, M ≤ 9 → lk_fgo P n b (nI M) = true → ∃ x, x ≤ M ∧ lk_cur P n b - 48 = nI x := fun b M hM hg => by
    have hg2 := (lk_fgo_iff hr hM).mp hg
    have a1 := Int32.le_iff_toInt_le.mp hg2.1
    have a2 := Int32.le_iff_toInt_le.mp hg2.2
    rw [show (48 : Int32).toInt = 48 from rfl] at a1
    rw [nI_toInt (by omega)] at a2
    refine ⟨((lk_cur P n b).toInt - 48).toNat, by omega, ?_⟩
    apply Int32.toInt_inj.mp
    rw [lk_ts (a := lk_cur P n b) (b := 48) rfl (show (48 : Int32).toInt = 48 from rfl) (by omega) (by omega) (by decide) (by decide), nI_toInt (by omega)]
    omega
  unfold lk_rdb at h
  split at h
  · cases h
  split at h
  · cases h
  split at h
  · cases h
  rename_i c3
  split at h
  · cases h
  split at h
  · cases h
  rename_i c5
  obtain ⟨x, hx, ex⟩ := fig _ 9 (by decide) (eq_true_of_ne_false c3)
  obtain ⟨y, hy, ey⟩ := fig _ L hL (by simpa using c5)
  obtain ⟨w, ew, pw, _⟩ := lk_rdn_4 P n a
  refine ⟨?_, ?_, ⟨y, hy, ?_⟩, ?_⟩
  · show 0 ≤ (lk_cur P n ((lk_rdn P n 4 a 0).2 + 1) - 48).toInt ∧ (lk_cur P n ((lk_rdn P n 4 a 0).2 + 1) - 48).toInt ≤ 9
    rw [ex, nI_toInt (by omega)]; omega
  · show lk_nok (lk_rdn P n 4 a 0).1
    rw [ew]; exact lk_prp_nok pw
  · exact ey
  · show (if lk_cur P n (lk_rdn P n 4 a 0).2 = 43 then (1 : Int32) else 0) = 0 ∨ (if lk_cur P n (lk_rdn P n 4 a 0).2 = 43 then (1 : Int32) else 0) = 1
    split
    · exact Or.inr rfl
    · exact Or.inl rfl
theorem lk_rbs_g {P : lk_O} {n L : Nat} (hn : n ≤ 60) (hr : ∀ a, a < n → 32 ≤ (P 0 a).toInt ∧ (P 0 a).toInt ≤ 126) (hL : L ≤ 9) : ∀ (m told a : Nat) (B C : lk_O) (nb : Nat), 1 ≤ told → 6 * told ≤ a + 6 → nb + 1 ≤ 12 + told → lk_fgd L nb B C →
    (lk_rbs P n (nI L) m told a C nb).1 = (lk_rbs P n (nI L) m told a B nb).1 ∧ (lk_rbs P n (nI L) m told a C nb).2.1 = (lk_rbs P n (nI L) m told a B nb).2.1 ∧
    ((lk_rbs P n (nI L) m told a B nb).2.1 = true → ∃ nb', nb' ≤ 12 ∧ lk_fgd L nb' (lk_rbs P n (nI L) m told a B nb).2.2 (lk_rbs P n (nI L) m told a C nb).2.2)
  | 0, told, a, B, C, nb, _, _, _, h => ⟨rfl, rfl, fun z => by cases z⟩
  | m + 1, told, a, B, C, nb, ht, ha, hnb, h => by
    unfold lk_rbs
    by_cases hb : (lk_rdb P n a (nI L)).1 = true
    · rw [if_pos hb, if_pos hb]
      have hle := lk_rdbm_le P n a (nI L) hb
      have hge := lk_rdbm_ge P n a (nI L) hb
      obtain ⟨w1, w0, w4, w3⟩ := lk_rdw_ok hr hL hb
      obtain ⟨ed, hp⟩ := lk_fgd_put h (by omega) w1 w0 w4 w3
      have en : lk_fputn C nb (lk_rdw P n a 0) = lk_fputn B nb (lk_rdw P n a 0) := by unfold lk_fputn; rw [ed]
      rw [en]
      have hfl := (lk_fputm_le B nb (lk_rdw P n a 0)).2
      by_cases q : n ≤ (lk_rdb P n a (nI L)).2
      · rw [if_pos q, if_pos q]
        by_cases q2 : lk_fputn B nb (lk_rdw P n a 0) ≤ 12
        · rw [if_pos q2, if_pos q2]; exact ⟨rfl, rfl, fun _ => ⟨_, q2, hp⟩⟩
        · rw [if_neg q2, if_neg q2]; exact ⟨rfl, rfl, fun z => by cases z⟩
      · rw [if_neg q, if_neg q]
        by_cases q3 : lk_cur P n (lk_rdb P n a (nI L)).2 = 44
        · rw [if_pos q3, if_pos q3]
          exact lk_rbs_g hn hr hL m (told + 1) _ _ _ _ (by omega) (by omega) (by omega) hp
        · rw [if_neg q3, if_neg q3]; exact ⟨rfl, rfl, fun z => by cases z⟩
    · rw [if_neg hb, if_neg hb]; exact ⟨rfl, rfl, fun z => by cases z⟩
theorem pp_boats (l : Launch) (X : lk_G) (d d2 : Nat) (σ : lk_N) (τ : lk_T) (n nf nt c : Nat) (hR : lk_R σ τ n nf nt c) : lk_Mt l X mX8_boats (d + 5) [lk_vr 0 0] σ τ (lk_PP l X mX9_boats (d2 + 4) [lk_vr 1 0] c) := by
  have ha := hR.1.1
  have hV := ha.1
  have hn6 := hV.2.2.1
  have hV0 := hV.1
  have hms := lk_R_ms hR (s := σ) rfl
  have hN53 : σ 1 0 53 = nI n := by rw [← hms, lk_r0 rfl rfl]; exact hV0
  have hRc := lk_R_c hR
  have hfk := hR.1.2.2.2.2
  have hn11 := hfk.1
  have hn12 := hfk.2.1
  have hm114 := hfk.2.2.1
  have hbv : lk_bv σ (σ 11) nf := hfk.2.2.2.1
  have hmb := lk_mb_BM σ
  have hBe := lk_BM_e hfk
  have hB5 : lk_BM (σ 1 0) 5 0 = nI nf := (lk_BM_5 _).trans hm114
  
  obtain ⟨t1, t2, t3, t4⟩ := hR.2.1
  have h8 := tX8_boats l X d σ τ nf hn11 hn12 nt t1 t2 hfk.2.2.2.2.1
  rw [hV0] at h8
  have hrng : ∀ a, a < nt → 32 ≤ (σ 14 0 a).toInt ∧ (σ 14 0 a).toInt ≤ 126 := fun a h => (t4 a h).2
  have hfg : lk_fgd n nf (σ 11) (lk_BM (σ 1 0)) := ⟨hn11, hB5, hBe, hfk.2.2.2.2.1, hfk.2.2.2.2.2.1, hfk.2.2.2.2.2.2⟩
  obtain ⟨q1, q2, q3⟩ := lk_rbs_g t2 hrng (by omega) 60 1 0 (σ 11) (lk_BM (σ 1 0)) nf (by decide) (by decide) (by omega) hfg
  obtain ⟨R, hRR⟩ : ∃ R, R = lk_rbs (σ 14) nt (nI n) 60 1 0 (σ 11) nf := ⟨_, rfl⟩
  obtain ⟨S, hS⟩ : ∃ S, S = lk_rbs (σ 14) nt (nI n) 60 1 0 (lk_BM (σ 1 0)) nf := ⟨_, rfl⟩
  rw [← hRR] at h8 q1 q2 q3
  rw [← hS] at q1 q2 q3
  refine lk_ppx h8 (fun W hW => ?_)
  have hW1 : W 1 = σ 1 := by rw [hW.1 1 rfl, lk_so_ne (by decide), lk_so_ne (by decide)]
  have hmb2 : lk_mb W (lk_BM (σ 1 0)) = W := by have := lk_mb_BM W; rwa [hW1] at this
  have h9 := tX9_boats l X d2 W τ (lk_BM (σ 1 0)) nf hB5 hn12 (σ 14) nt t2 (by rw [hW1]; exact t3) (fun a ha => by rw [hW1]; exact (t4 a ha).1) hrng n (by omega) (by rw [hW1]; exact hN53)
  rw [← hS, q1, q2] at h9
  refine lk_pfb hmb2 h9 (fun U hU => ?_)
  have eo (o : Nat) (ho : lk_scr o = false) (h1 : ¬ o = 1) (h11 : ¬ o = 11) (h14 : ¬ o = 14) : U o = σ o := funext fun f => funext fun i => by rw [hU.1 o f i (fun z => h1 z.1), hW.1 o ho, lk_so_ne h14, lk_so_ne h11]
  have ef (f : Nat) (hf : f ∉ [2, 12, 14, 15, 16, 17]) : U 1 f = σ 1 f := funext fun i => by rw [hU.1 1 f i (fun z => hf z.2), hW1]
  have hU11 : U 11 = if R.2.1 = true then R.2.2 else σ 11 := funext fun f => funext fun i => by rw [hU.1 11 f i (by simp), hW.1 11 rfl, lk_so_ne (by decide), lk_so_eq]
  have hfin : ∃ nf', lk_fok n nf' (lk_mbw (if R.2.1 = true then S.2.2 else lk_BM (σ 1 0)) (σ 1 0)) (if R.2.1 = true then R.2.2 else σ 11) := by
    by_cases q : R.2.1 = true
    · obtain ⟨nb', hb12, g1, g2, g3, g4, g5, g6⟩ := q3 q
      rw [if_pos q, if_pos q]
      exact ⟨nb', lk_fok_mb g1 hb12 g2 g3 g4 g5 g6⟩
    · rw [if_neg q, if_neg q]
      exact ⟨nf, lk_fok_mb hn11 hn12 hB5 hBe hfk.2.2.2.2.1 hfk.2.2.2.2.2.1 hfk.2.2.2.2.2.2⟩
  obtain ⟨nf', hfin⟩ := hfin
  have hU0 : U 1 0 = σ 1 0 := ef 0 (by decide)
  obtain ⟨s, hs⟩ : ∃ s : lk_N, s = lk_mb U (if R.2.1 = true then S.2.2 else lk_BM (σ 1 0)) := ⟨_, rfl⟩
  rw [← hs]
  have so (o f : Nat) (h : ¬ (o = 1 ∧ f = 0)) : s o f = U o f := funext fun i => by rw [hs, lk_bn h]
  have hs0 : s 1 0 = lk_mbw (if R.2.1 = true then S.2.2 else lk_BM (σ 1 0)) (σ 1 0) := by rw [hs, lk_mbu, hU0]
  refine lk_R_B (nf' := nf') (nt' := 0) hR hs0 ?_ ⟨?_, by decide, ?_, fun a ha => absurd ha (by omega)⟩ (fun o f i ho a b cc => ?_) ?_
  · rw [hs0, show s 11 = (if R.2.1 = true then R.2.2 else σ 11) from by rw [← hU11]; exact funext fun f => so 11 f (by omega)]; exact hfin
  · rw [so 14 1 (by decide), hU.1 14 1 0 (by decide)]; exact hW.2
  · rw [so 1 12 (by decide)]; exact hU.2
  · rw [so o f (by omega)]
    by_cases h1 : o = 1
    · subst h1
      have hf : f ∉ [2, 12, 14, 15, 16, 17] := by
        intro z
        simp at z
        rcases z with rfl | rfl | rfl | rfl | rfl | rfl <;> first | (simp [lk_rl] at ho; done) | (exact cc ⟨rfl, by decide⟩)
      rw [ef f hf]
    · have hsc : lk_scr o = false := by
        cases hz : lk_scr o
        · rfl
        · exfalso
          simp only [lk_scr, Bool.or_eq_true, beq_iff_eq] at hz
          rcases hz with ((((((z | z) | z) | z) | z) | z) | z) | z <;> subst z <;> simp [lk_rl] at ho
      rw [eo o hsc h1 a b]
  · rw [so 1 10 (by decide), ef 10 (by decide)]
