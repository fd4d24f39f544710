/-- what a run leaves of the boats' reaches: i from below, j from above have moved on -/
def lk_mvd (σ W : lk_N) (B : lk_O) (nf k i j : Nat) : Prop :=
  (∀ x, (∀ b, b < nf → x ≠ 102 + b) → W 1 0 x = σ 1 0 x) ∧ (∀ a, a < i → W 1 0 (102 + (lk_qb B nf k).2 a) = nI (k + 1)) ∧ (∀ a, a < j → W 1 0 (102 + (lk_qa B nf k).2 a) = nI k) ∧
  ∀ b, b < nf → (∀ a, a < i → ¬ (lk_qb B nf k).2 a = b) → (∀ a, a < j → ¬ (lk_qa B nf k).2 a = b) → W 1 0 (102 + b) = B 4 b
theorem lk_mvd_0 {σ : lk_N} {B : lk_O} {nf k : Nat} (hB : lk_bv σ B nf) : lk_mvd σ σ B nf k 0 0 :=
  ⟨fun _ _ => rfl, fun a h => absurd h (by omega), fun a h => absurd h (by omega), fun b hb _ _ => (hB b hb).2.2.2.2⟩
theorem lk_mvd_e {σ W U : lk_N} {B : lk_O} {nf k i j : Nat} (h : lk_mvd σ W B nf k i j) (e : U 1 0 = W 1 0) : lk_mvd σ U B nf k i j := by unfold lk_mvd; rw [e]; exact h
theorem lk_qab {B : lk_O} {nf k a b : Nat} (ha : a < (lk_qb B nf k).1) (hb : b < (lk_qa B nf k).1) : ¬ (lk_qb B nf k).2 a = (lk_qa B nf k).2 b := by
  intro e
  have h1 := (lk_gat_p B (nI k) 1 nf a ha).2
  have h2 := (lk_gat_p B (nI (k + 1)) 0 nf b hb).2
  rw [show (lk_gat B (nI k) 1 nf).2 a = (lk_gat B (nI (k + 1)) 0 nf).2 b from e, h2] at h1
  exact absurd h1 (by decide)
theorem lk_mvd_b {σ W : lk_N} {B : lk_O} {nf k i j : Nat} (h : lk_mvd σ W B nf k i j) (hi : i < (lk_qb B nf k).1) (hj : j ≤ (lk_qa B nf k).1) : lk_mvd σ (lk_up W 1 0 (102 + (lk_qb B nf k).2 i) (nI (k + 1))) B nf k (i + 1) j := by
  have hl := lk_gat_lt B (nI k) 1 nf i hi
  refine ⟨fun x hx => ?_, fun a ha => ?_, fun a ha => ?_, fun b hb h1 h2 => ?_⟩
  · simp only [lk_up]; rw [if_neg (fun z => hx _ hl z.2.2)]; exact h.1 x hx
  · simp only [lk_up]
    by_cases e : a = i
    · subst e; simp
    · rw [if_neg (fun z => e (lk_gat_i B (nI k) 1 nf a i (by have : (lk_qb B nf k).1 = (lk_gat B (nI k) 1 nf).1 := rfl; omega) hi (Nat.add_left_cancel z.2.2)))]; exact h.2.1 a (by omega)
  · simp only [lk_up]
    rw [if_neg (fun z => lk_qab hi (show a < (lk_qa B nf k).1 by omega) (by have := z.2.2; omega))]; exact h.2.2.1 a ha
  · simp only [lk_up]
    rw [if_neg (fun z => h1 i (by omega) (by have := z.2.2; omega))]
    exact h.2.2.2 b hb (fun a ha => h1 a (by omega)) h2
theorem lk_mvd_a {σ W : lk_N} {B : lk_O} {nf k i j : Nat} (h : lk_mvd σ W B nf k i j) (hi : i ≤ (lk_qb B nf k).1) (hj : j < (lk_qa B nf k).1) : lk_mvd σ (lk_up W 1 0 (102 + (lk_qa B nf k).2 j) (nI k)) B nf k i (j + 1) := by
  have hl := lk_gat_lt B (nI (k + 1)) 0 nf j hj
  refine ⟨fun x hx => ?_, fun a ha => ?_, fun a ha => ?_, fun b hb h1 h2 => ?_⟩
  · simp only [lk_up]; rw [if_neg (fun z => hx _ hl z.2.2)]; exact h.1 x hx
  · simp only [lk_up]
    rw [if_neg (fun z => lk_qab (show a < (lk_qb B nf k).1 by omega) hj (by have := z.2.2; omega))]; exact h.2.1 a ha
  · simp only [lk_up]
    by_cases e : a = j
    · subst e; simp
    · rw [if_neg (fun z => e (lk_gat_i B (nI (k + 1)) 0 nf a j (by have : (lk_qa B nf k).1 = (lk_gat B (nI (k + 1)) 0 nf).1 := rfl; omega) hj (Nat.add_left_cancel z.2.2)))]; exact h.2.2.1 a (by omega)
  · simp only [lk_up]
    rw [if_neg (fun z => h2 j (by omega) (by have := z.2.2; omega))]
    exact h.2.2.2 b hb h1 (fun a ha => h2 a (by omega))
theorem lk_lq_e {σ W : lk_N} {g h : Nat × (Nat → Nat)} {S : List Nat} (hf : lk_fx S σ W) (h18 : 18 ∉ S) (h19 : 19 ∉ S) (h20 : 20 ∉ S) (h21 : 21 ∉ S) (hq : lk_lq σ g h) : lk_lq W g h :=
  ⟨(hf 1 18 0 (fun z => h18 z.2)).trans hq.1, (hf 1 19 0 (fun z => h19 z.2)).trans hq.2.1, fun i hi => (hf 1 20 i (fun z => h20 z.2)).trans (hq.2.2.1 i hi), fun i hi => (hf 1 21 i (fun z => h21 z.2)).trans (hq.2.2.2 i hi)⟩
def lk_rnP (t : Nat) (σ W : lk_N) (B : lk_O) (nf k : Nat) (r : (Nat × Nat × Int32) × lk_J) : Prop :=
  lk_fx [0, 6, 7, 8, 9, 10, 11, 18, 19, 20, 21, 22, 23] σ W ∧ lk_mvd σ W B nf k r.1.1 r.1.2.1 ∧ W 1 22 0 = nI (r.1.1 + r.1.2.1) ∧ W 1 23 0 = r.1.2.2 ∧ lk_kz σ W (if t = 1 then r.2.1 else none)
set_option maxHeartbeats 1000000 in
set_option maxRecDepth 100000 in
theorem tX9_runs1 (l : Launch) (X : lk_G) (d : Nat) (σ : lk_N) (τ : lk_T) (V T : lk_O) (n k : Nat) (hV : lk_cok V n) (hk : k < n) (hr0 : lk_rok V) (B : lk_O) (nf : Nat) (hn : σ 1 0 114 = nI nf) (hn12 : nf ≤ 12) (hB : lk_bv σ B nf) (hz : ∀ b, b < nf → 0 ≤ (B 1 b).toInt ∧ (B 1 b).toInt ≤ 9) (ru : Nat) (hru : ru ≤ 3) : lk_Mt l X mX9_runs (d + 5) [lk_vr 1 0, lk_vi (nI (k)), lk_vi (nI (ru)), lk_vi 1] (lk_ms σ V T) τ (fun rr σ1 τ1 => rr = none ∧ τ1 = τ ∧ ∃ W : lk_N, σ1 = lk_ms W (lk_run B V T nf k ru).2.2.1 (lk_run B V T nf k ru).2.2.2 ∧ lk_rnP 1 σ W B nf k (lk_run B V T nf k ru)) := by
  refine lk_met (L := [(0, lk_vr 1 0), (1, lk_vi (nI (k))), (2, lk_vi (nI (ru))), (3, lk_vi 1)]) (by decide +kernel) (Nat.le_of_ble_eq_true rfl) rfl ?_
  obtain ⟨Q, hQ⟩ : ∃ Q : lk_Q, Q = fun rr σ1 τ1 => rr = none ∧ τ1 = τ ∧ ∃ W : lk_N, σ1 = lk_ms W (lk_run B V T nf k ru).2.2.1 (lk_run B V T nf k ru).2.2.2 ∧ lk_rnP 1 σ W B nf k (lk_run B V T nf k ru) := ⟨_, rfl⟩
  rw [← hQ]
  have hk6 : k < 6 := Nat.lt_of_lt_of_le hk hV.2.2.1
  have hgb : (lk_qb B nf k).1 ≤ nf := lk_gat_le B (nI k) 1 nf
  have hga : (lk_qa B nf k).1 ≤ nf := lk_gat_le B (nI (k + 1)) 0 nf
  have hgl : ∀ a, a < (lk_qb B nf k).1 → (lk_qb B nf k).2 a < nf := lk_gat_lt B (nI k) 1 nf
  have hhl : ∀ a, a < (lk_qa B nf k).1 → (lk_qa B nf k).2 a < nf := lk_gat_lt B (nI (k + 1)) 0 nf
  refine lk_aload_n dX9_runs_0 rfl rfl ?_
  refine lk_iload_n dX9_runs_1 rfl rfl ?_
  refine lk_callV (o := 1) (as := [lk_vi (nI (k))]) (S := []) dX9_runs_2 rfl vX9_queuesOf rfl lX9_174 rfl rfl (Nat.le_of_ble_eq_true rfl) (tX9_queuesOf l X (d + 3) σ τ (k := (k)) (V := V) (T := T) (B := B) (nf := nf) (hn := hn) (hn12 := hn12) (hB := hB) (hk := hk6)) ?_
  refine lk_k4 (fun W0 hW0 => ?_)
  obtain ⟨W0f, W0a, W0b, W0c, W0d⟩ := hW0
  refine lk_cast (pc' := 5) (S' := []) rfl rfl rfl ?_
  refine lk_sg (σ' := (lk_ms W0 V T)) rfl ?_
  refine lk_aload_n dX9_runs_5 rfl rfl ?_
  refine lk_iconst (v := 0) dX9_runs_6 (by decide) ?_
  refine lk_putI (f := 22) dX9_runs_7 rfl fX9_196 (by decide) (by decide) ?_
  refine lk_sg (σ' := (lk_ms (lk_up W0 1 22 0 0) V T)) (lk_wf (by decide)) ?_
  refine lk_aload_n dX9_runs_10 rfl rfl ?_
  refine lk_iconst (v := 0) dX9_runs_11 (by decide) ?_
  refine lk_putI (f := 23) dX9_runs_12 rfl fX9_199 (by decide) (by decide) ?_
  refine lk_sg (σ' := (lk_ms (lk_up (lk_up W0 1 22 0 0) 1 23 0 0) V T)) (lk_wf (by decide)) ?_
  refine lk_iconst (v := 0) dX9_runs_15 (by decide) ?_
  refine lk_istore (L' := [(0, lk_vr 1 0), (1, lk_vi (nI (k))), (2, lk_vi (nI (ru))), (3, lk_vi 1), (4, lk_vi 0)]) dX9_runs_16 (by decide +kernel) rfl ?_
  refine lk_iconst (v := 0) dX9_runs_18 (by decide) ?_
  refine lk_istore (L' := [(0, lk_vr 1 0), (1, lk_vi (nI (k))), (2, lk_vi (nI (ru))), (3, lk_vi 1), (4, lk_vi 0), (5, lk_vi 0)]) dX9_runs_19 (by decide +kernel) rfl ?_
  have LP21 : ∀ (fu : Nat) (i j : Nat) (sp : Int32) (W : lk_N) (V1 U1 : lk_O), i ≤ (lk_qb B nf k).1 → j ≤ (lk_qa B nf k).1 → (ru = 0 → i < (lk_qb B nf k).1 → j < (lk_qa B nf k).1 → i = j ∨ i = j + 1) → lk_cok V1 n → lk_rok V1 → lk_fx [0, 6, 7, 8, 9, 10, 11, 18, 19, 20, 21, 22, 23] σ W → lk_mvd σ W B nf k i j → W 1 22 0 = nI (i + j) → W 1 23 0 = sp → lk_kz σ W none → lk_lq W (lk_qb B nf k) (lk_qa B nf k) → lk_run B V T nf k ru = lk_rr (B 2) (B 1) (lk_qb B nf k).2 (lk_qa B nf k).2 (lk_qb B nf k).1 (lk_qa B nf k).1 k ru ((lk_qb B nf k).1 + (lk_qa B nf k).1 - i - j) i j sp V1 U1 → (lk_qb B nf k).1 + (lk_qa B nf k).1 - i - j < fu → lk_W l X mX9_runs (d + 5) 21 [(0, lk_vr 1 0), (1, lk_vi (nI (k))), (2, lk_vi (nI (ru))), (3, lk_vi 1), (4, lk_vi (nI (i))), (5, lk_vi (nI (j)))] [] (lk_ms W V1 U1) τ Q := by
    intro fu
    induction fu with
    | zero => intro i j sp W V1 U1 hi hj hal hc hrk hWf hMv hD hS hWk hq hI hfu; exact absurd hfu (by omega)
    | succ fu ih =>
      intro i j sp W V1 U1 hi hj hal hc hrk hWf hMv hD hS hWk hq hI hfu
      refine lk_iload dX9_runs_21 rfl ?_
      refine lk_aload_n dX9_runs_23 rfl rfl ?_
      refine lk_getIv (v := (nI ((lk_qb B nf k).1))) (f := 18) dX9_runs_24 rfl fX9_168 (by decide) (by decide) ((lk_rf (by decide)).trans hq.1) ?_
      refine lk_icmp_ltN (a := i) (b := (lk_qb B nf k).1) (tgt := 39) dX9_runs_27 (by decide) (by omega) (by omega) (fun hh1 => ?_) (fun hh1 => ?_)
      ·
        refine lk_aload_n dX9_runs_39 rfl rfl ?_
        refine lk_iload_n dX9_runs_40 rfl rfl ?_
        refine lk_iload_n dX9_runs_41 rfl rfl ?_
        refine lk_iload dX9_runs_42 rfl ?_
        refine lk_iload dX9_runs_44 rfl ?_
        have hor : i < (lk_qb B nf k).1 ∨ j < (lk_qa B nf k).1 := by omega
        have hm : (lk_qb B nf k).1 + (lk_qa B nf k).1 - i - j = ((lk_qb B nf k).1 + (lk_qa B nf k).1 - i - j - 1) + 1 := by omega
        rcases hfb : lk_frb (B 2) (lk_qb B nf k).2 (lk_qa B nf k).2 (lk_qb B nf k).1 (lk_qa B nf k).1 i j (V1 5 k) ru with _ | _
        ·
          have hj2 := lk_frbm_f hfb hor
          have hql : ((lk_qa B nf k).2 j) < 12 := by have := hhl j hj2; omega
          have hqp := lk_gat_p B (nI (k + 1)) 0 nf j hj2
          refine lk_callV (o := 1) (as := [lk_vi (nI (k)), lk_vi (nI (ru)), lk_vi (nI (i)), lk_vi (nI (j))]) (S := []) dX9_runs_46 rfl vX9_isFromBelow rfl lX9_202 rfl rfl (Nat.le_of_ble_eq_true rfl) (tX9_isFromBelow l X (d + 4) W τ (k := (k)) (ru := (ru)) (i := (i)) (j := (j)) (V := V1) (T := U1) (g := lk_qb B nf k) (h := lk_qa B nf k) (hq := hq) (R := B 2) (nf := nf) (hn12 := hn12) (hk := hk6) (hru := hru) (hi := hi) (hj := hj) (hg := hgl) (hh := hhl) (hg12 := by omega) (hh12 := by omega) (hK := (fun b hb => ((hMv.1 (78 + b) (fun c hc => by omega)).trans (hB b hb).2.2.1))) (h5 := (hc.2.2.2 k hk6).2.2.2.2.2.2) (hal := hal)) ?_
          refine lk_k3 ?_
          refine lk_cast (pc' := 49) (S' := [lk_vi (if lk_frb (B 2) (lk_qb B nf k).2 (lk_qa B nf k).2 (lk_qb B nf k).1 (lk_qa B nf k).1 (i) (j) (V1 5 (k)) (ru) = true then 1 else 0)]) rfl rfl rfl ?_
          refine lk_eqtop (y := 0) (by rw [hfb]; rfl) ?_
          refine lk_istore (L' := [(0, lk_vr 1 0), (1, lk_vi (nI (k))), (2, lk_vi (nI (ru))), (3, lk_vi 1), (4, lk_vi (nI (i))), (5, lk_vi (nI (j))), (6, lk_vi 0)]) dX9_runs_49 (by decide +kernel) rfl ?_
          refine lk_aload_n dX9_runs_51 rfl rfl ?_
          refine lk_iload dX9_runs_52 rfl ?_
          refine lk_if_eq (tgt := 67) dX9_runs_54 (by decide) (fun hh2 => ?_) (fun hh2 => absurd hh2 (by decide))
          refine lk_aload_n dX9_runs_67 rfl rfl ?_
          refine lk_getR (f := 21) dX9_runs_68 rfl fX9_33 (by decide) (by decide) ?_
          refine lk_iload dX9_runs_71 rfl ?_
          refine lk_ialdN (f := 21) (i := j) dX9_runs_73 rfl (by decide) rfl (by omega) (by decide) ?_
          refine lk_eqtop (y := (nI ((lk_qa B nf k).2 j))) ((lk_rf (by decide)).trans (hq.2.2.2 j hj2)) ?_
          refine lk_iload_n dX9_runs_74 rfl rfl ?_
          rcases hp : lk_pas V1 k false (B 1 ((lk_qa B nf k).2 j)) with V2 | q
          ·
            refine lk_callV (o := 1) (as := [lk_vi (nI ((lk_qa B nf k).2 j)), lk_vi 1]) (S := []) dX9_runs_75 rfl vX9_boatGoes rfl lX9_159 rfl rfl (Nat.le_of_ble_eq_true rfl) (tX9_boatGoes_dn1_ok l X d W τ (b := ((lk_qa B nf k).2 j)) (V := V1) (T := U1) (hb := hql) (n := n) (k := k) (z := (B 1 ((lk_qa B nf k).2 j))) (hV := hc) (hr := hrk) (hk := hk) (hu := (hMv.1 (90 + ((lk_qa B nf k).2 j)) (fun c hc => by omega)).trans ((hB _ (hhl j hj2)).2.2.2.1.trans hqp.2)) (hre := (hMv.2.2.2 _ (hhl j hj2) (fun a ha z => lk_qab (show a < (lk_qb B nf k).1 by omega) hj2 z) (fun a ha z => by have := lk_gat_i B (nI (k + 1)) 0 nf a j (by have : (lk_qa B nf k).1 = (lk_gat B (nI (k + 1)) 0 nf).1 := rfl; omega) hj2 z; omega)).trans hqp.1) (hs := (hMv.1 (66 + ((lk_qa B nf k).2 j)) (fun c hc => by omega)).trans (hB _ (hhl j hj2)).2.1) (hz := (hz _ (hhl j hj2)).1) (hz9 := (hz _ (hhl j hj2)).2) (W := V2) (h := hp)) ?_
            refine lk_k3 ?_
            refine lk_cast (pc' := 78) (S' := [lk_vi 1]) rfl rfl rfl ?_
            refine lk_if_ne (tgt := 82) dX9_runs_78 (by decide) (fun hh3 => ?_) (fun hh3 => absurd hh3 (by decide))
            refine lk_iload dX9_runs_82 rfl ?_
            refine lk_if_eq (tgt := 93) dX9_runs_84 (by decide) (fun hh4 => ?_) (fun hh4 => absurd hh4 (by decide))
            refine lk_iincN (a := j) (m := 1) (L' := [(0, lk_vr 1 0), (1, lk_vi (nI (k))), (2, lk_vi (nI (ru))), (3, lk_vi 1), (4, lk_vi (nI (i))), (5, lk_vi (nI (j + 1))), (6, lk_vi 0)]) dX9_runs_93 rfl rfl (by decide +kernel) rfl ?_
            refine lk_aload_n dX9_runs_96 rfl rfl ?_
            refine lk_dup dX9_runs_97 rfl ?_
            refine lk_getIv (v := (W 1 22 (0))) (f := 22) dX9_runs_98 rfl fX9_196 (by decide) (by decide) ((lk_rf (by decide)).trans rfl) ?_
            refine lk_iconst (v := 1) dX9_runs_101 (by decide) ?_
            refine lk_iadd dX9_runs_102 ?_
            refine lk_putI (f := 22) dX9_runs_103 rfl fX9_196 (by decide) (by decide) ?_
            refine lk_sg (σ' := (lk_ms (lk_up (lk_up (lk_up W 1 6 0 (V1 6 (k + 1) - V2 6 (k + 1))) 1 0 (102 + ((lk_qa B nf k).2 j)) (nI (k))) 1 22 0 ((W 1 22 (0)) + 1)) V2 (lk_tad U1 (V1 6 (k + 1) - V2 6 (k + 1))))) (lk_wf (by decide)) ?_
            refine lk_aload_n dX9_runs_106 rfl rfl ?_
            refine lk_dup dX9_runs_107 rfl ?_
            refine lk_getIv (v := (W 1 23 (0))) (f := 23) dX9_runs_108 rfl fX9_199 (by decide) (by decide) ((lk_rf (by decide)).trans rfl) ?_
            refine lk_aload_n dX9_runs_111 rfl rfl ?_
            refine lk_getIv (v := ((V1 6 (k + 1) - V2 6 (k + 1)))) (f := 6) dX9_runs_112 rfl fX9_137 (by decide) (by decide) ((lk_rf (by decide)).trans rfl) ?_
            refine lk_iadd dX9_runs_115 ?_
            refine lk_putI (f := 23) dX9_runs_116 rfl fX9_199 (by decide) (by decide) ?_
            refine lk_sg (σ' := (lk_ms (lk_up (lk_up (lk_up (lk_up W 1 6 0 (V1 6 (k + 1) - V2 6 (k + 1))) 1 0 (102 + ((lk_qa B nf k).2 j)) (nI (k))) 1 22 0 ((W 1 22 (0)) + 1)) 1 23 0 ((W 1 23 (0)) + ((V1 6 (k + 1) - V2 6 (k + 1))))) V2 (lk_tad U1 (V1 6 (k + 1) - V2 6 (k + 1))))) (lk_wf (by decide)) ?_
            refine lk_goto (tgt := 21) dX9_runs_119 (by decide) ?_
            refine lk_sub (L' := [(0, lk_vr 1 0), (1, lk_vi (nI (k))), (2, lk_vi (nI (ru))), (3, lk_vi 1), (4, lk_vi (nI (i))), (5, lk_vi (nI (j + 1)))]) [0, 1, 2, 3, 4, 5] rfl ?_
            rw [hm, lk_rr, hfb] at hI
            simp only [hp] at hI
            exact ih i (j + 1) (sp + (V1 6 (k + 1) - V2 6 (k + 1))) ((lk_up (lk_up (lk_up (lk_up W 1 6 0 (V1 6 (k + 1) - V2 6 (k + 1))) 1 0 (102 + ((lk_qa B nf k).2 j)) (nI (k))) 1 22 0 ((W 1 22 (0)) + 1)) 1 23 0 ((W 1 23 (0)) + ((V1 6 (k + 1) - V2 6 (k + 1)))))) V2 (lk_tad U1 (V1 6 (k + 1) - V2 6 (k + 1))) (by omega) (by omega) (by
              intro h0 h1 h2
              have h3 := hal h0 (by omega) (by omega)
              rw [h0, lk_frbm_0 (by omega) (by omega)] at hfb
              have h4 := of_decide_eq_false hfb
              omega) (lk_pas_cok hp hk hc (hz _ (hhl j hj2)).1 (hz _ (hhl j hj2)).2) (lk_pas_rok hrk hk6 hp) (lk_fx_up (lk_fx_up (lk_fx_up (lk_fx_up hWf (by decide)) (by decide)) (by decide)) (by decide)) (lk_mvd_e (lk_mvd_a hMv hi hj2) (by funext x; simp [lk_up])) (by
              show W 1 22 0 + 1 = _
              rw [hD]; exact nI_add _ 1) (by show W 1 23 0 + _ = _; rw [hS]) ⟨hWk.1, hWk.2⟩ (lk_lq_e (S := [0, 6, 22, 23]) (lk_fx_up (lk_fx_up (lk_fx_up (lk_fx_up (lk_fx_rf _ _) (by decide)) (by decide)) (by decide)) (by decide)) (by decide) (by decide) (by decide) (by decide) hq) (by rw [hI]; congr 1 <;> omega) (by omega)
          ·
            refine lk_callV (o := 1) (as := [lk_vi (nI ((lk_qa B nf k).2 j)), lk_vi 1]) (S := []) dX9_runs_75 rfl vX9_boatGoes rfl lX9_159 rfl rfl (Nat.le_of_ble_eq_true rfl) (tX9_boatGoes_dn1_no l X d W τ (b := ((lk_qa B nf k).2 j)) (V := V1) (T := U1) (hb := hql) (n := n) (k := k) (z := (B 1 ((lk_qa B nf k).2 j))) (hV := hc) (hr := hrk) (hk := hk) (hu := (hMv.1 (90 + ((lk_qa B nf k).2 j)) (fun c hc => by omega)).trans ((hB _ (hhl j hj2)).2.2.2.1.trans hqp.2)) (hre := (hMv.2.2.2 _ (hhl j hj2) (fun a ha z => lk_qab (show a < (lk_qb B nf k).1 by omega) hj2 z) (fun a ha z => by have := lk_gat_i B (nI (k + 1)) 0 nf a j (by have : (lk_qa B nf k).1 = (lk_gat B (nI (k + 1)) 0 nf).1 := rfl; omega) hj2 z; omega)).trans hqp.1) (hs := (hMv.1 (66 + ((lk_qa B nf k).2 j)) (fun c hc => by omega)).trans (hB _ (hhl j hj2)).2.1) (hz := (hz _ (hhl j hj2)).1) (hz9 := (hz _ (hhl j hj2)).2) (q := q) (h := hp)) ?_
            refine lk_k5 (fun s1 => ?_)
            refine lk_cast (pc' := 78) (S' := [lk_vi 0]) rfl rfl rfl ?_
            refine lk_sg (σ' := (lk_ms (lk_cau (lk_up (lk_bar W q) 1 6 0 s1) k q) V1 U1)) rfl ?_
            refine lk_if_ne (tgt := 82) dX9_runs_78 (by decide) (fun hh5 => absurd hh5 (by decide)) (fun hh5 => ?_)
            refine lk_vret dX9_runs_81 rfl ?_
            rw [hQ]
            rw [hm, lk_rr, hfb] at hI
            simp only [hp] at hI
            rw [hI]
            exact ⟨rfl, rfl, (lk_cau (lk_up (lk_bar W q) 1 6 0 s1) k q), rfl, (lk_fx_cau (lk_fx_up (lk_fx_bar hWf (by decide) (by decide) (by decide)) (by decide)) (by decide) (by decide)), lk_mvd_e hMv rfl, hD, hS, ⟨rfl, rfl, rfl, rfl, rfl⟩⟩
        ·
          have hi2 := lk_frbm_t hfb hor hi
          have hql : ((lk_qb B nf k).2 i) < 12 := by have := hgl i hi2; omega
          have hqp := lk_gat_p B (nI k) 1 nf i hi2
          refine lk_callV (o := 1) (as := [lk_vi (nI (k)), lk_vi (nI (ru)), lk_vi (nI (i)), lk_vi (nI (j))]) (S := []) dX9_runs_46 rfl vX9_isFromBelow rfl lX9_202 rfl rfl (Nat.le_of_ble_eq_true rfl) (tX9_isFromBelow l X (d + 4) W τ (k := (k)) (ru := (ru)) (i := (i)) (j := (j)) (V := V1) (T := U1) (g := lk_qb B nf k) (h := lk_qa B nf k) (hq := hq) (R := B 2) (nf := nf) (hn12 := hn12) (hk := hk6) (hru := hru) (hi := hi) (hj := hj) (hg := hgl) (hh := hhl) (hg12 := by omega) (hh12 := by omega) (hK := (fun b hb => ((hMv.1 (78 + b) (fun c hc => by omega)).trans (hB b hb).2.2.1))) (h5 := (hc.2.2.2 k hk6).2.2.2.2.2.2) (hal := hal)) ?_
          refine lk_k3 ?_
          refine lk_cast (pc' := 49) (S' := [lk_vi (if lk_frb (B 2) (lk_qb B nf k).2 (lk_qa B nf k).2 (lk_qb B nf k).1 (lk_qa B nf k).1 (i) (j) (V1 5 (k)) (ru) = true then 1 else 0)]) rfl rfl rfl ?_
          refine lk_eqtop (y := 1) (by rw [hfb]; rfl) ?_
          refine lk_istore (L' := [(0, lk_vr 1 0), (1, lk_vi (nI (k))), (2, lk_vi (nI (ru))), (3, lk_vi 1), (4, lk_vi (nI (i))), (5, lk_vi (nI (j))), (6, lk_vi 1)]) dX9_runs_49 (by decide +kernel) rfl ?_
          refine lk_aload_n dX9_runs_51 rfl rfl ?_
          refine lk_iload dX9_runs_52 rfl ?_
          refine lk_if_eq (tgt := 67) dX9_runs_54 (by decide) (fun hh6 => absurd hh6 (by decide)) (fun hh6 => ?_)
          refine lk_aload_n dX9_runs_57 rfl rfl ?_
          refine lk_getR (f := 20) dX9_runs_58 rfl fX9_30 (by decide) (by decide) ?_
          refine lk_iload dX9_runs_61 rfl ?_
          refine lk_ialdN (f := 20) (i := i) dX9_runs_63 rfl (by decide) rfl (by omega) (by decide) ?_
          refine lk_eqtop (y := (nI ((lk_qb B nf k).2 i))) ((lk_rf (by decide)).trans (hq.2.2.1 i hi2)) ?_
          refine lk_goto (tgt := 74) dX9_runs_64 (by decide) ?_
          refine lk_iload_n dX9_runs_74 rfl rfl ?_
          rcases hp : lk_pas V1 k true (B 1 ((lk_qb B nf k).2 i)) with V2 | q
          ·
            refine lk_callV (o := 1) (as := [lk_vi (nI ((lk_qb B nf k).2 i)), lk_vi 1]) (S := []) dX9_runs_75 rfl vX9_boatGoes rfl lX9_159 rfl rfl (Nat.le_of_ble_eq_true rfl) (tX9_boatGoes_up1_ok l X d W τ (b := ((lk_qb B nf k).2 i)) (V := V1) (T := U1) (hb := hql) (n := n) (k := k) (z := (B 1 ((lk_qb B nf k).2 i))) (hV := hc) (hr := hrk) (hk := hk) (hu := (hMv.1 (90 + ((lk_qb B nf k).2 i)) (fun c hc => by omega)).trans ((hB _ (hgl i hi2)).2.2.2.1.trans hqp.2)) (hre := (hMv.2.2.2 _ (hgl i hi2) (fun a ha z => by have := lk_gat_i B (nI k) 1 nf a i (by have : (lk_qb B nf k).1 = (lk_gat B (nI k) 1 nf).1 := rfl; omega) hi2 z; omega) (fun a ha z => lk_qab hi2 (show a < (lk_qa B nf k).1 by omega) z.symm)).trans hqp.1) (hs := (hMv.1 (66 + ((lk_qb B nf k).2 i)) (fun c hc => by omega)).trans (hB _ (hgl i hi2)).2.1) (hz := (hz _ (hgl i hi2)).1) (hz9 := (hz _ (hgl i hi2)).2) (W := V2) (h := hp)) ?_
            refine lk_k3 ?_
            refine lk_cast (pc' := 78) (S' := [lk_vi 1]) rfl rfl rfl ?_
            refine lk_if_ne (tgt := 82) dX9_runs_78 (by decide) (fun hh7 => ?_) (fun hh7 => absurd hh7 (by decide))
            refine lk_iload dX9_runs_82 rfl ?_
            refine lk_if_eq (tgt := 93) dX9_runs_84 (by decide) (fun hh8 => absurd hh8 (by decide)) (fun hh8 => ?_)
            refine lk_iincN (a := i) (m := 1) (L' := [(0, lk_vr 1 0), (1, lk_vi (nI (k))), (2, lk_vi (nI (ru))), (3, lk_vi 1), (4, lk_vi (nI (i + 1))), (5, lk_vi (nI (j))), (6, lk_vi 1)]) dX9_runs_87 rfl rfl (by decide +kernel) rfl ?_
            refine lk_goto (tgt := 96) dX9_runs_90 (by decide) ?_
            refine lk_aload_n dX9_runs_96 rfl rfl ?_
            refine lk_dup dX9_runs_97 rfl ?_
            refine lk_getIv (v := (W 1 22 (0))) (f := 22) dX9_runs_98 rfl fX9_196 (by decide) (by decide) ((lk_rf (by decide)).trans rfl) ?_
            refine lk_iconst (v := 1) dX9_runs_101 (by decide) ?_
            refine lk_iadd dX9_runs_102 ?_
            refine lk_putI (f := 22) dX9_runs_103 rfl fX9_196 (by decide) (by decide) ?_
            refine lk_sg (σ' := (lk_ms (lk_up (lk_up (lk_up W 1 6 0 (V1 6 (k + 1) - V2 6 (k + 1))) 1 0 (102 + ((lk_qb B nf k).2 i)) (nI (k + 1))) 1 22 0 ((W 1 22 (0)) + 1)) V2 (lk_tad U1 (V1 6 (k + 1) - V2 6 (k + 1))))) (lk_wf (by decide)) ?_
            refine lk_aload_n dX9_runs_106 rfl rfl ?_
            refine lk_dup dX9_runs_107 rfl ?_
            refine lk_getIv (v := (W 1 23 (0))) (f := 23) dX9_runs_108 rfl fX9_199 (by decide) (by decide) ((lk_rf (by decide)).trans rfl) ?_
            refine lk_aload_n dX9_runs_111 rfl rfl ?_
            refine lk_getIv (v := ((V1 6 (k + 1) - V2 6 (k + 1)))) (f := 6) dX9_runs_112 rfl fX9_137 (by decide) (by decide) ((lk_rf (by decide)).trans rfl) ?_
            refine lk_iadd dX9_runs_115 ?_
            refine lk_putI (f := 23) dX9_runs_116 rfl fX9_199 (by decide) (by decide) ?_
            refine lk_sg (σ' := (lk_ms (lk_up (lk_up (lk_up (lk_up W 1 6 0 (V1 6 (k + 1) - V2 6 (k + 1))) 1 0 (102 + ((lk_qb B nf k).2 i)) (nI (k + 1))) 1 22 0 ((W 1 22 (0)) + 1)) 1 23 0 ((W 1 23 (0)) + ((V1 6 (k + 1) - V2 6 (k + 1))))) V2 (lk_tad U1 (V1 6 (k + 1) - V2 6 (k + 1))))) (lk_wf (by decide)) ?_
            refine lk_goto (tgt := 21) dX9_runs_119 (by decide) ?_
            refine lk_sub (L' := [(0, lk_vr 1 0), (1, lk_vi (nI (k))), (2, lk_vi (nI (ru))), (3, lk_vi 1), (4, lk_vi (nI (i + 1))), (5, lk_vi (nI (j)))]) [0, 1, 2, 3, 4, 5] rfl ?_
            rw [hm, lk_rr, hfb] at hI
            simp only [hp] at hI
            exact ih (i + 1) j (sp + (V1 6 (k + 1) - V2 6 (k + 1))) ((lk_up (lk_up (lk_up (lk_up W 1 6 0 (V1 6 (k + 1) - V2 6 (k + 1))) 1 0 (102 + ((lk_qb B nf k).2 i)) (nI (k + 1))) 1 22 0 ((W 1 22 (0)) + 1)) 1 23 0 ((W 1 23 (0)) + ((V1 6 (k + 1) - V2 6 (k + 1)))))) V2 (lk_tad U1 (V1 6 (k + 1) - V2 6 (k + 1))) (by omega) (by omega) (by
              intro h0 h1 h2
              have h3 := hal h0 (by omega) (by omega)
              rw [h0, lk_frbm_0 (by omega) (by omega)] at hfb
              have h4 := of_decide_eq_true hfb
              omega) (lk_pas_cok hp hk hc (hz _ (hgl i hi2)).1 (hz _ (hgl i hi2)).2) (lk_pas_rok hrk hk6 hp) (lk_fx_up (lk_fx_up (lk_fx_up (lk_fx_up hWf (by decide)) (by decide)) (by decide)) (by decide)) (lk_mvd_e (lk_mvd_b hMv hi2 hj) (by funext x; simp [lk_up])) (by
              show W 1 22 0 + 1 = _
              rw [hD]; rw [show i + 1 + j = i + j + 1 by omega]; exact nI_add _ 1) (by show W 1 23 0 + _ = _; rw [hS]) ⟨hWk.1, hWk.2⟩ (lk_lq_e (S := [0, 6, 22, 23]) (lk_fx_up (lk_fx_up (lk_fx_up (lk_fx_up (lk_fx_rf _ _) (by decide)) (by decide)) (by decide)) (by decide)) (by decide) (by decide) (by decide) (by decide) hq) (by rw [hI]; congr 1 <;> omega) (by omega)
          ·
            refine lk_callV (o := 1) (as := [lk_vi (nI ((lk_qb B nf k).2 i)), lk_vi 1]) (S := []) dX9_runs_75 rfl vX9_boatGoes rfl lX9_159 rfl rfl (Nat.le_of_ble_eq_true rfl) (tX9_boatGoes_up1_no l X d W τ (b := ((lk_qb B nf k).2 i)) (V := V1) (T := U1) (hb := hql) (n := n) (k := k) (z := (B 1 ((lk_qb B nf k).2 i))) (hV := hc) (hr := hrk) (hk := hk) (hu := (hMv.1 (90 + ((lk_qb B nf k).2 i)) (fun c hc => by omega)).trans ((hB _ (hgl i hi2)).2.2.2.1.trans hqp.2)) (hre := (hMv.2.2.2 _ (hgl i hi2) (fun a ha z => by have := lk_gat_i B (nI k) 1 nf a i (by have : (lk_qb B nf k).1 = (lk_gat B (nI k) 1 nf).1 := rfl; omega) hi2 z; omega) (fun a ha z => lk_qab hi2 (show a < (lk_qa B nf k).1 by omega) z.symm)).trans hqp.1) (hs := (hMv.1 (66 + ((lk_qb B nf k).2 i)) (fun c hc => by omega)).trans (hB _ (hgl i hi2)).2.1) (hz := (hz _ (hgl i hi2)).1) (hz9 := (hz _ (hgl i hi2)).2) (q := q) (h := hp)) ?_
            refine lk_k5 (fun s1 => ?_)
            refine lk_cast (pc' := 78) (S' := [lk_vi 0]) rfl rfl rfl ?_
            refine lk_sg (σ' := (lk_ms (lk_cau (lk_up (lk_bar W q) 1 6 0 s1) k q) V1 U1)) rfl ?_
            refine lk_if_ne (tgt := 82) dX9_runs_78 (by decide) (fun hh9 => absurd hh9 (by decide)) (fun hh9 => ?_)
            refine lk_vret dX9_runs_81 rfl ?_
            rw [hQ]
            rw [hm, lk_rr, hfb] at hI
            simp only [hp] at hI
            rw [hI]
            exact ⟨rfl, rfl, (lk_cau (lk_up (lk_bar W q) 1 6 0 s1) k q), rfl, (lk_fx_cau (lk_fx_up (lk_fx_bar hWf (by decide) (by decide) (by decide)) (by decide)) (by decide) (by decide)), lk_mvd_e hMv rfl, hD, hS, ⟨rfl, rfl, rfl, rfl, rfl⟩⟩
      ·
        refine lk_iload dX9_runs_30 rfl ?_
        refine lk_aload_n dX9_runs_32 rfl rfl ?_
        refine lk_getIv (v := (nI ((lk_qa B nf k).1))) (f := 19) dX9_runs_33 rfl fX9_171 (by decide) (by decide) ((lk_rf (by decide)).trans hq.2.1) ?_
        refine lk_icmp_geN (a := j) (b := (lk_qa B nf k).1) (tgt := 122) dX9_runs_36 (by decide) (by omega) (by omega) (fun hh10 => ?_) (fun hh10 => ?_)
        ·
          refine lk_vret dX9_runs_122 rfl ?_
          rw [hQ]
          rw [show (lk_qb B nf k).1 + (lk_qa B nf k).1 - i - j = 0 by omega, lk_rr] at hI
          rw [hI]
          exact ⟨rfl, rfl, W, rfl, hWf, hMv, hD, hS, by simpa using hWk⟩
        ·
          refine lk_aload_n dX9_runs_39 rfl rfl ?_
          refine lk_iload_n dX9_runs_40 rfl rfl ?_
          refine lk_iload_n dX9_runs_41 rfl rfl ?_
          refine lk_iload dX9_runs_42 rfl ?_
          refine lk_iload dX9_runs_44 rfl ?_
          have hor : i < (lk_qb B nf k).1 ∨ j < (lk_qa B nf k).1 := by omega
          have hm : (lk_qb B nf k).1 + (lk_qa B nf k).1 - i - j = ((lk_qb B nf k).1 + (lk_qa B nf k).1 - i - j - 1) + 1 := by omega
          rcases hfb : lk_frb (B 2) (lk_qb B nf k).2 (lk_qa B nf k).2 (lk_qb B nf k).1 (lk_qa B nf k).1 i j (V1 5 k) ru with _ | _
          ·
            have hj2 := lk_frbm_f hfb hor
            have hql : ((lk_qa B nf k).2 j) < 12 := by have := hhl j hj2; omega
            have hqp := lk_gat_p B (nI (k + 1)) 0 nf j hj2
            refine lk_callV (o := 1) (as := [lk_vi (nI (k)), lk_vi (nI (ru)), lk_vi (nI (i)), lk_vi (nI (j))]) (S := []) dX9_runs_46 rfl vX9_isFromBelow rfl lX9_202 rfl rfl (Nat.le_of_ble_eq_true rfl) (tX9_isFromBelow l X (d + 4) W τ (k := (k)) (ru := (ru)) (i := (i)) (j := (j)) (V := V1) (T := U1) (g := lk_qb B nf k) (h := lk_qa B nf k) (hq := hq) (R := B 2) (nf := nf) (hn12 := hn12) (hk := hk6) (hru := hru) (hi := hi) (hj := hj) (hg := hgl) (hh := hhl) (hg12 := by omega) (hh12 := by omega) (hK := (fun b hb => ((hMv.1 (78 + b) (fun c hc => by omega)).trans (hB b hb).2.2.1))) (h5 := (hc.2.2.2 k hk6).2.2.2.2.2.2) (hal := hal)) ?_
            refine lk_k3 ?_
            refine lk_cast (pc' := 49) (S' := [lk_vi (if lk_frb (B 2) (lk_qb B nf k).2 (lk_qa B nf k).2 (lk_qb B nf k).1 (lk_qa B nf k).1 (i) (j) (V1 5 (k)) (ru) = true then 1 else 0)]) rfl rfl rfl ?_
            refine lk_eqtop (y := 0) (by rw [hfb]; rfl) ?_
            refine lk_istore (L' := [(0, lk_vr 1 0), (1, lk_vi (nI (k))), (2, lk_vi (nI (ru))), (3, lk_vi 1), (4, lk_vi (nI (i))), (5, lk_vi (nI (j))), (6, lk_vi 0)]) dX9_runs_49 (by decide +kernel) rfl ?_
            refine lk_aload_n dX9_runs_51 rfl rfl ?_
            refine lk_iload dX9_runs_52 rfl ?_
            refine lk_if_eq (tgt := 67) dX9_runs_54 (by decide) (fun hh11 => ?_) (fun hh11 => absurd hh11 (by decide))
            refine lk_aload_n dX9_runs_67 rfl rfl ?_
            refine lk_getR (f := 21) dX9_runs_68 rfl fX9_33 (by decide) (by decide) ?_
            refine lk_iload dX9_runs_71 rfl ?_
            refine lk_ialdN (f := 21) (i := j) dX9_runs_73 rfl (by decide) rfl (by omega) (by decide) ?_
            refine lk_eqtop (y := (nI ((lk_qa B nf k).2 j))) ((lk_rf (by decide)).trans (hq.2.2.2 j hj2)) ?_
            refine lk_iload_n dX9_runs_74 rfl rfl ?_
            rcases hp : lk_pas V1 k false (B 1 ((lk_qa B nf k).2 j)) with V2 | q
            ·
              refine lk_callV (o := 1) (as := [lk_vi (nI ((lk_qa B nf k).2 j)), lk_vi 1]) (S := []) dX9_runs_75 rfl vX9_boatGoes rfl lX9_159 rfl rfl (Nat.le_of_ble_eq_true rfl) (tX9_boatGoes_dn1_ok l X d W τ (b := ((lk_qa B nf k).2 j)) (V := V1) (T := U1) (hb := hql) (n := n) (k := k) (z := (B 1 ((lk_qa B nf k).2 j))) (hV := hc) (hr := hrk) (hk := hk) (hu := (hMv.1 (90 + ((lk_qa B nf k).2 j)) (fun c hc => by omega)).trans ((hB _ (hhl j hj2)).2.2.2.1.trans hqp.2)) (hre := (hMv.2.2.2 _ (hhl j hj2) (fun a ha z => lk_qab (show a < (lk_qb B nf k).1 by omega) hj2 z) (fun a ha z => by have := lk_gat_i B (nI (k + 1)) 0 nf a j (by have : (lk_qa B nf k).1 = (lk_gat B (nI (k + 1)) 0 nf).1 := rfl; omega) hj2 z; omega)).trans hqp.1) (hs := (hMv.1 (66 + ((lk_qa B nf k).2 j)) (fun c hc => by omega)).trans (hB _ (hhl j hj2)).2.1) (hz := (hz _ (hhl j hj2)).1) (hz9 := (hz _ (hhl j hj2)).2) (W := V2) (h := hp)) ?_
              refine lk_k3 ?_
              refine lk_cast (pc' := 78) (S' := [lk_vi 1]) rfl rfl rfl ?_
              refine lk_if_ne (tgt := 82) dX9_runs_78 (by decide) (fun hh12 => ?_) (fun hh12 => absurd hh12 (by decide))
              refine lk_iload dX9_runs_82 rfl ?_
              refine lk_if_eq (tgt := 93) dX9_runs_84 (by decide) (fun hh13 => ?_) (fun hh13 => absurd hh13 (by decide))
              refine lk_iincN (a := j) (m := 1) (L' := [(0, lk_vr 1 0), (1, lk_vi (nI (k))), (2, lk_vi (nI (ru))), (3, lk_vi 1), (4, lk_vi (nI (i))), (5, lk_vi (nI (j + 1))), (6, lk_vi 0)]) dX9_runs_93 rfl rfl (by decide +kernel) rfl ?_
              refine lk_aload_n dX9_runs_96 rfl rfl ?_
              refine lk_dup dX9_runs_97 rfl ?_
              refine lk_getIv (v := (W 1 22 (0))) (f := 22) dX9_runs_98 rfl fX9_196 (by decide) (by decide) ((lk_rf (by decide)).trans rfl) ?_
              refine lk_iconst (v := 1) dX9_runs_101 (by decide) ?_
              refine lk_iadd dX9_runs_102 ?_
              refine lk_putI (f := 22) dX9_runs_103 rfl fX9_196 (by decide) (by decide) ?_
              refine lk_sg (σ' := (lk_ms (lk_up (lk_up (lk_up W 1 6 0 (V1 6 (k + 1) - V2 6 (k + 1))) 1 0 (102 + ((lk_qa B nf k).2 j)) (nI (k))) 1 22 0 ((W 1 22 (0)) + 1)) V2 (lk_tad U1 (V1 6 (k + 1) - V2 6 (k + 1))))) (lk_wf (by decide)) ?_
              refine lk_aload_n dX9_runs_106 rfl rfl ?_
              refine lk_dup dX9_runs_107 rfl ?_
              refine lk_getIv (v := (W 1 23 (0))) (f := 23) dX9_runs_108 rfl fX9_199 (by decide) (by decide) ((lk_rf (by decide)).trans rfl) ?_
              refine lk_aload_n dX9_runs_111 rfl rfl ?_
              refine lk_getIv (v := ((V1 6 (k + 1) - V2 6 (k + 1)))) (f := 6) dX9_runs_112 rfl fX9_137 (by decide) (by decide) ((lk_rf (by decide)).trans rfl) ?_
              refine lk_iadd dX9_runs_115 ?_
              refine lk_putI (f := 23) dX9_runs_116 rfl fX9_199 (by decide) (by decide) ?_
              refine lk_sg (σ' := (lk_ms (lk_up (lk_up (lk_up (lk_up W 1 6 0 (V1 6 (k + 1) - V2 6 (k + 1))) 1 0 (102 + ((lk_qa B nf k).2 j)) (nI (k))) 1 22 0 ((W 1 22 (0)) + 1)) 1 23 0 ((W 1 23 (0)) + ((V1 6 (k + 1) - V2 6 (k + 1))))) V2 (lk_tad U1 (V1 6 (k + 1) - V2 6 (k + 1))))) (lk_wf (by decide)) ?_
              refine lk_goto (tgt := 21) dX9_runs_119 (by decide) ?_
              refine lk_sub (L' := [(0, lk_vr 1 0), (1, lk_vi (nI (k))), (2, lk_vi (nI (ru))), (3, lk_vi 1), (4, lk_vi (nI (i))), (5, lk_vi (nI (j + 1)))]) [0, 1, 2, 3, 4, 5] rfl ?_
              rw [hm, lk_rr, hfb] at hI
              simp only [hp] at hI
              exact ih i (j + 1) (sp + (V1 6 (k + 1) - V2 6 (k + 1))) ((lk_up (lk_up (lk_up (lk_up W 1 6 0 (V1 6 (k + 1) - V2 6 (k + 1))) 1 0 (102 + ((lk_qa B nf k).2 j)) (nI (k))) 1 22 0 ((W 1 22 (0)) + 1)) 1 23 0 ((W 1 23 (0)) + ((V1 6 (k + 1) - V2 6 (k + 1)))))) V2 (lk_tad U1 (V1 6 (k + 1) - V2 6 (k + 1))) (by omega) (by omega) (by
                intro h0 h1 h2
                have h3 := hal h0 (by omega) (by omega)
                rw [h0, lk_frbm_0 (by omega) (by omega)] at hfb
                have h4 := of_decide_eq_false hfb
                omega) (lk_pas_cok hp hk hc (hz _ (hhl j hj2)).1 (hz _ (hhl j hj2)).2) (lk_pas_rok hrk hk6 hp) (lk_fx_up (lk_fx_up (lk_fx_up (lk_fx_up hWf (by decide)) (by decide)) (by decide)) (by decide)) (lk_mvd_e (lk_mvd_a hMv hi hj2) (by funext x; simp [lk_up])) (by
                show W 1 22 0 + 1 = _
                rw [hD]; exact nI_add _ 1) (by show W 1 23 0 + _ = _; rw [hS]) ⟨hWk.1, hWk.2⟩ (lk_lq_e (S := [0, 6, 22, 23]) (lk_fx_up (lk_fx_up (lk_fx_up (lk_fx_up (lk_fx_rf _ _) (by decide)) (by decide)) (by decide)) (by decide)) (by decide) (by decide) (by decide) (by decide) hq) (by rw [hI]; congr 1 <;> omega) (by omega)
            ·
              refine lk_callV (o := 1) (as := [lk_vi (nI ((lk_qa B nf k).2 j)), lk_vi 1]) (S := []) dX9_runs_75 rfl vX9_boatGoes rfl lX9_159 rfl rfl (Nat.le_of_ble_eq_true rfl) (tX9_boatGoes_dn1_no l X d W τ (b := ((lk_qa B nf k).2 j)) (V := V1) (T := U1) (hb := hql) (n := n) (k := k) (z := (B 1 ((lk_qa B nf k).2 j))) (hV := hc) (hr := hrk) (hk := hk) (hu := (hMv.1 (90 + ((lk_qa B nf k).2 j)) (fun c hc => by omega)).trans ((hB _ (hhl j hj2)).2.2.2.1.trans hqp.2)) (hre := (hMv.2.2.2 _ (hhl j hj2) (fun a ha z => lk_qab (show a < (lk_qb B nf k).1 by omega) hj2 z) (fun a ha z => by have := lk_gat_i B (nI (k + 1)) 0 nf a j (by have : (lk_qa B nf k).1 = (lk_gat B (nI (k + 1)) 0 nf).1 := rfl; omega) hj2 z; omega)).trans hqp.1) (hs := (hMv.1 (66 + ((lk_qa B nf k).2 j)) (fun c hc => by omega)).trans (hB _ (hhl j hj2)).2.1) (hz := (hz _ (hhl j hj2)).1) (hz9 := (hz _ (hhl j hj2)).2) (q := q) (h := hp)) ?_
              refine lk_k5 (fun s1 => ?_)
              refine lk_cast (pc' := 78) (S' := [lk_vi 0]) rfl rfl rfl ?_
              refine lk_sg (σ' := (lk_ms (lk_cau (lk_up (lk_bar W q) 1 6 0 s1) k q) V1 U1)) rfl ?_
              refine lk_if_ne (tgt := 82) dX9_runs_78 (by decide) (fun hh14 => absurd hh14 (by decide)) (fun hh14 => ?_)
              refine lk_vret dX9_runs_81 rfl ?_
              rw [hQ]
              rw [hm, lk_rr, hfb] at hI
              simp only [hp] at hI
              rw [hI]
              exact ⟨rfl, rfl, (lk_cau (lk_up (lk_bar W q) 1 6 0 s1) k q), rfl, (lk_fx_cau (lk_fx_up (lk_fx_bar hWf (by decide) (by decide) (by decide)) (by decide)) (by decide) (by decide)), lk_mvd_e hMv rfl, hD, hS, ⟨rfl, rfl, rfl, rfl, rfl⟩⟩
          ·
            have hi2 := lk_frbm_t hfb hor hi
            have hql : ((lk_qb B nf k).2 i) < 12 := by have := hgl i hi2; omega
            have hqp := lk_gat_p B (nI k) 1 nf i hi2
            refine lk_callV (o := 1) (as := [lk_vi (nI (k)), lk_vi (nI (ru)), lk_vi (nI (i)), lk_vi (nI (j))]) (S := []) dX9_runs_46 rfl vX9_isFromBelow rfl lX9_202 rfl rfl (Nat.le_of_ble_eq_true rfl) (tX9_isFromBelow l X (d + 4) W τ (k := (k)) (ru := (ru)) (i := (i)) (j := (j)) (V := V1) (T := U1) (g := lk_qb B nf k) (h := lk_qa B nf k) (hq := hq) (R := B 2) (nf := nf) (hn12 := hn12) (hk := hk6) (hru := hru) (hi := hi) (hj := hj) (hg := hgl) (hh := hhl) (hg12 := by omega) (hh12 := by omega) (hK := (fun b hb => ((hMv.1 (78 + b) (fun c hc => by omega)).trans (hB b hb).2.2.1))) (h5 := (hc.2.2.2 k hk6).2.2.2.2.2.2) (hal := hal)) ?_
            refine lk_k3 ?_
            refine lk_cast (pc' := 49) (S' := [lk_vi (if lk_frb (B 2) (lk_qb B nf k).2 (lk_qa B nf k).2 (lk_qb B nf k).1 (lk_qa B nf k).1 (i) (j) (V1 5 (k)) (ru) = true then 1 else 0)]) rfl rfl rfl ?_
            refine lk_eqtop (y := 1) (by rw [hfb]; rfl) ?_
            refine lk_istore (L' := [(0, lk_vr 1 0), (1, lk_vi (nI (k))), (2, lk_vi (nI (ru))), (3, lk_vi 1), (4, lk_vi (nI (i))), (5, lk_vi (nI (j))), (6, lk_vi 1)]) dX9_runs_49 (by decide +kernel) rfl ?_
            refine lk_aload_n dX9_runs_51 rfl rfl ?_
            refine lk_iload dX9_runs_52 rfl ?_
            refine lk_if_eq (tgt := 67) dX9_runs_54 (by decide) (fun hh15 => absurd hh15 (by decide)) (fun hh15 => ?_)
            refine lk_aload_n dX9_runs_57 rfl rfl ?_
            refine lk_getR (f := 20) dX9_runs_58 rfl fX9_30 (by decide) (by decide) ?_
            refine lk_iload dX9_runs_61 rfl ?_
            refine lk_ialdN (f := 20) (i := i) dX9_runs_63 rfl (by decide) rfl (by omega) (by decide) ?_
            refine lk_eqtop (y := (nI ((lk_qb B nf k).2 i))) ((lk_rf (by decide)).trans (hq.2.2.1 i hi2)) ?_
            refine lk_goto (tgt := 74) dX9_runs_64 (by decide) ?_
            refine lk_iload_n dX9_runs_74 rfl rfl ?_
            rcases hp : lk_pas V1 k true (B 1 ((lk_qb B nf k).2 i)) with V2 | q
            ·
              refine lk_callV (o := 1) (as := [lk_vi (nI ((lk_qb B nf k).2 i)), lk_vi 1]) (S := []) dX9_runs_75 rfl vX9_boatGoes rfl lX9_159 rfl rfl (Nat.le_of_ble_eq_true rfl) (tX9_boatGoes_up1_ok l X d W τ (b := ((lk_qb B nf k).2 i)) (V := V1) (T := U1) (hb := hql) (n := n) (k := k) (z := (B 1 ((lk_qb B nf k).2 i))) (hV := hc) (hr := hrk) (hk := hk) (hu := (hMv.1 (90 + ((lk_qb B nf k).2 i)) (fun c hc => by omega)).trans ((hB _ (hgl i hi2)).2.2.2.1.trans hqp.2)) (hre := (hMv.2.2.2 _ (hgl i hi2) (fun a ha z => by have := lk_gat_i B (nI k) 1 nf a i (by have : (lk_qb B nf k).1 = (lk_gat B (nI k) 1 nf).1 := rfl; omega) hi2 z; omega) (fun a ha z => lk_qab hi2 (show a < (lk_qa B nf k).1 by omega) z.symm)).trans hqp.1) (hs := (hMv.1 (66 + ((lk_qb B nf k).2 i)) (fun c hc => by omega)).trans (hB _ (hgl i hi2)).2.1) (hz := (hz _ (hgl i hi2)).1) (hz9 := (hz _ (hgl i hi2)).2) (W := V2) (h := hp)) ?_
              refine lk_k3 ?_
              refine lk_cast (pc' := 78) (S' := [lk_vi 1]) rfl rfl rfl ?_
              refine lk_if_ne (tgt := 82) dX9_runs_78 (by decide) (fun hh16 => ?_) (fun hh16 => absurd hh16 (by decide))
              refine lk_iload dX9_runs_82 rfl ?_
              refine lk_if_eq (tgt := 93) dX9_runs_84 (by decide) (fun hh17 => absurd hh17 (by decide)) (fun hh17 => ?_)
              refine lk_iincN (a := i) (m := 1) (L' := [(0, lk_vr 1 0), (1, lk_vi (nI (k))), (2, lk_vi (nI (ru))), (3, lk_vi 1), (4, lk_vi (nI (i + 1))), (5, lk_vi (nI (j))), (6, lk_vi 1)]) dX9_runs_87 rfl rfl (by decide +kernel) rfl ?_
              refine lk_goto (tgt := 96) dX9_runs_90 (by decide) ?_
              refine lk_aload_n dX9_runs_96 rfl rfl ?_
              refine lk_dup dX9_runs_97 rfl ?_
              refine lk_getIv (v := (W 1 22 (0))) (f := 22) dX9_runs_98 rfl fX9_196 (by decide) (by decide) ((lk_rf (by decide)).trans rfl) ?_
              refine lk_iconst (v := 1) dX9_runs_101 (by decide) ?_
              refine lk_iadd dX9_runs_102 ?_
              refine lk_putI (f := 22) dX9_runs_103 rfl fX9_196 (by decide) (by decide) ?_
              refine lk_sg (σ' := (lk_ms (lk_up (lk_up (lk_up W 1 6 0 (V1 6 (k + 1) - V2 6 (k + 1))) 1 0 (102 + ((lk_qb B nf k).2 i)) (nI (k + 1))) 1 22 0 ((W 1 22 (0)) + 1)) V2 (lk_tad U1 (V1 6 (k + 1) - V2 6 (k + 1))))) (lk_wf (by decide)) ?_
              refine lk_aload_n dX9_runs_106 rfl rfl ?_
              refine lk_dup dX9_runs_107 rfl ?_
              refine lk_getIv (v := (W 1 23 (0))) (f := 23) dX9_runs_108 rfl fX9_199 (by decide) (by decide) ((lk_rf (by decide)).trans rfl) ?_
              refine lk_aload_n dX9_runs_111 rfl rfl ?_
              refine lk_getIv (v := ((V1 6 (k + 1) - V2 6 (k + 1)))) (f := 6) dX9_runs_112 rfl fX9_137 (by decide) (by decide) ((lk_rf (by decide)).trans rfl) ?_
              refine lk_iadd dX9_runs_115 ?_
              refine lk_putI (f := 23) dX9_runs_116 rfl fX9_199 (by decide) (by decide) ?_
              refine lk_sg (σ' := (lk_ms (lk_up (lk_up (lk_up (lk_up W 1 6 0 (V1 6 (k + 1) - V2 6 (k + 1))) 1 0 (102 + ((lk_qb B nf k).2 i)) (nI (k + 1))) 1 22 0 ((W 1 22 (0)) + 1)) 1 23 0 ((W 1 23 (0)) + ((V1 6 (k + 1) - V2 6 (k + 1))))) V2 (lk_tad U1 (V1 6 (k + 1) - V2 6 (k + 1))))) (lk_wf (by decide)) ?_
              refine lk_goto (tgt := 21) dX9_runs_119 (by decide) ?_
              refine lk_sub (L' := [(0, lk_vr 1 0), (1, lk_vi (nI (k))), (2, lk_vi (nI (ru))), (3, lk_vi 1), (4, lk_vi (nI (i + 1))), (5, lk_vi (nI (j)))]) [0, 1, 2, 3, 4, 5] rfl ?_
              rw [hm, lk_rr, hfb] at hI
              simp only [hp] at hI
              exact ih (i + 1) j (sp + (V1 6 (k + 1) - V2 6 (k + 1))) ((lk_up (lk_up (lk_up (lk_up W 1 6 0 (V1 6 (k + 1) - V2 6 (k + 1))) 1 0 (102 + ((lk_qb B nf k).2 i)) (nI (k + 1))) 1 22 0 ((W 1 22 (0)) + 1)) 1 23 0 ((W 1 23 (0)) + ((V1 6 (k + 1) - V2 6 (k + 1)))))) V2 (lk_tad U1 (V1 6 (k + 1) - V2 6 (k + 1))) (by omega) (by omega) (by
                intro h0 h1 h2
                have h3 := hal h0 (by omega) (by omega)
                rw [h0, lk_frbm_0 (by omega) (by omega)] at hfb
                have h4 := of_decide_eq_true hfb
                omega) (lk_pas_cok hp hk hc (hz _ (hgl i hi2)).1 (hz _ (hgl i hi2)).2) (lk_pas_rok hrk hk6 hp) (lk_fx_up (lk_fx_up (lk_fx_up (lk_fx_up hWf (by decide)) (by decide)) (by decide)) (by decide)) (lk_mvd_e (lk_mvd_b hMv hi2 hj) (by funext x; simp [lk_up])) (by
                show W 1 22 0 + 1 = _
                rw [hD]; rw [show i + 1 + j = i + j + 1 by omega]; exact nI_add _ 1) (by show W 1 23 0 + _ = _; rw [hS]) ⟨hWk.1, hWk.2⟩ (lk_lq_e (S := [0, 6, 22, 23]) (lk_fx_up (lk_fx_up (lk_fx_up (lk_fx_up (lk_fx_rf _ _) (by decide)) (by decide)) (by decide)) (by decide)) (by decide) (by decide) (by decide) (by decide) hq) (by rw [hI]; congr 1 <;> omega) (by omega)
            ·
              refine lk_callV (o := 1) (as := [lk_vi (nI ((lk_qb B nf k).2 i)), lk_vi 1]) (S := []) dX9_runs_75 rfl vX9_boatGoes rfl lX9_159 rfl rfl (Nat.le_of_ble_eq_true rfl) (tX9_boatGoes_up1_no l X d W τ (b := ((lk_qb B nf k).2 i)) (V := V1) (T := U1) (hb := hql) (n := n) (k := k) (z := (B 1 ((lk_qb B nf k).2 i))) (hV := hc) (hr := hrk) (hk := hk) (hu := (hMv.1 (90 + ((lk_qb B nf k).2 i)) (fun c hc => by omega)).trans ((hB _ (hgl i hi2)).2.2.2.1.trans hqp.2)) (hre := (hMv.2.2.2 _ (hgl i hi2) (fun a ha z => by have := lk_gat_i B (nI k) 1 nf a i (by have : (lk_qb B nf k).1 = (lk_gat B (nI k) 1 nf).1 := rfl; omega) hi2 z; omega) (fun a ha z => lk_qab hi2 (show a < (lk_qa B nf k).1 by omega) z.symm)).trans hqp.1) (hs := (hMv.1 (66 + ((lk_qb B nf k).2 i)) (fun c hc => by omega)).trans (hB _ (hgl i hi2)).2.1) (hz := (hz _ (hgl i hi2)).1) (hz9 := (hz _ (hgl i hi2)).2) (q := q) (h := hp)) ?_
              refine lk_k5 (fun s1 => ?_)
              refine lk_cast (pc' := 78) (S' := [lk_vi 0]) rfl rfl rfl ?_
              refine lk_sg (σ' := (lk_ms (lk_cau (lk_up (lk_bar W q) 1 6 0 s1) k q) V1 U1)) rfl ?_
              refine lk_if_ne (tgt := 82) dX9_runs_78 (by decide) (fun hh18 => absurd hh18 (by decide)) (fun hh18 => ?_)
              refine lk_vret dX9_runs_81 rfl ?_
              rw [hQ]
              rw [hm, lk_rr, hfb] at hI
              simp only [hp] at hI
              rw [hI]
              exact ⟨rfl, rfl, (lk_cau (lk_up (lk_bar W q) 1 6 0 s1) k q), rfl, (lk_fx_cau (lk_fx_up (lk_fx_bar hWf (by decide) (by decide) (by decide)) (by decide)) (by decide) (by decide)), lk_mvd_e hMv rfl, hD, hS, ⟨rfl, rfl, rfl, rfl, rfl⟩⟩
  exact LP21 ((lk_qb B nf k).1 + (lk_qa B nf k).1 + 1) 0 0 0 (lk_up (lk_up W0 1 22 0 0) 1 23 0 0) V T (by omega) (by omega) (fun _ _ _ => Or.inl rfl) hV hr0 (lk_fx_up (lk_fx_up (lk_fx_mo W0f (by decide)) (by decide)) (by decide)) (lk_mvd_e (lk_mvd_0 hB) (by funext x; exact W0f 1 0 x (by decide))) rfl rfl ⟨W0f 1 10 0 (by decide), funext fun x => W0f 1 11 x (by decide)⟩ ⟨W0a, W0b, W0c, W0d⟩ rfl (by omega)

set_option maxHeartbeats 1000000 in
set_option maxRecDepth 100000 in
theorem tX9_runs0 (l : Launch) (X : lk_G) (d : Nat) (σ : lk_N) (τ : lk_T) (V T : lk_O) (n k : Nat) (hV : lk_cok V n) (hk : k < n) (hr0 : lk_rok V) (B : lk_O) (nf : Nat) (hn : σ 1 0 114 = nI nf) (hn12 : nf ≤ 12) (hB : lk_bv σ B nf) (hz : ∀ b, b < nf → 0 ≤ (B 1 b).toInt ∧ (B 1 b).toInt ≤ 9) (ru : Nat) (hru : ru ≤ 3) : lk_Mt l X mX9_runs (d + 5) [lk_vr 1 0, lk_vi (nI (k)), lk_vi (nI (ru)), lk_vi 0] (lk_ms σ V T) τ (fun rr σ1 τ1 => rr = none ∧ τ1 = τ ∧ ∃ W : lk_N, σ1 = lk_ms W (lk_run B V T nf k ru).2.2.1 T ∧ lk_rnP 0 σ W B nf k (lk_run B V T nf k ru)) := by
  refine lk_met (L := [(0, lk_vr 1 0), (1, lk_vi (nI (k))), (2, lk_vi (nI (ru))), (3, lk_vi 0)]) (by decide +kernel) (Nat.le_of_ble_eq_true rfl) rfl ?_
  obtain ⟨Q, hQ⟩ : ∃ Q : lk_Q, Q = fun rr σ1 τ1 => rr = none ∧ τ1 = τ ∧ ∃ W : lk_N, σ1 = lk_ms W (lk_run B V T nf k ru).2.2.1 T ∧ lk_rnP 0 σ W B nf k (lk_run B V T nf k ru) := ⟨_, rfl⟩
  rw [← hQ]
  have hk6 : k < 6 := Nat.lt_of_lt_of_le hk hV.2.2.1
  have hgb : (lk_qb B nf k).1 ≤ nf := lk_gat_le B (nI k) 1 nf
  have hga : (lk_qa B nf k).1 ≤ nf := lk_gat_le B (nI (k + 1)) 0 nf
  have hgl : ∀ a, a < (lk_qb B nf k).1 → (lk_qb B nf k).2 a < nf := lk_gat_lt B (nI k) 1 nf
  have hhl : ∀ a, a < (lk_qa B nf k).1 → (lk_qa B nf k).2 a < nf := lk_gat_lt B (nI (k + 1)) 0 nf
  refine lk_aload_n dX9_runs_0 rfl rfl ?_
  refine lk_iload_n dX9_runs_1 rfl rfl ?_
  refine lk_callV (o := 1) (as := [lk_vi (nI (k))]) (S := []) dX9_runs_2 rfl vX9_queuesOf rfl lX9_174 rfl rfl (Nat.le_of_ble_eq_true rfl) (tX9_queuesOf l X (d + 3) σ τ (k := (k)) (V := V) (T := T) (B := B) (nf := nf) (hn := hn) (hn12 := hn12) (hB := hB) (hk := hk6)) ?_
  refine lk_k4 (fun W0 hW0 => ?_)
  obtain ⟨W0f, W0a, W0b, W0c, W0d⟩ := hW0
  refine lk_cast (pc' := 5) (S' := []) rfl rfl rfl ?_
  refine lk_sg (σ' := (lk_ms W0 V T)) rfl ?_
  refine lk_aload_n dX9_runs_5 rfl rfl ?_
  refine lk_iconst (v := 0) dX9_runs_6 (by decide) ?_
  refine lk_putI (f := 22) dX9_runs_7 rfl fX9_196 (by decide) (by decide) ?_
  refine lk_sg (σ' := (lk_ms (lk_up W0 1 22 0 0) V T)) (lk_wf (by decide)) ?_
  refine lk_aload_n dX9_runs_10 rfl rfl ?_
  refine lk_iconst (v := 0) dX9_runs_11 (by decide) ?_
  refine lk_putI (f := 23) dX9_runs_12 rfl fX9_199 (by decide) (by decide) ?_
  refine lk_sg (σ' := (lk_ms (lk_up (lk_up W0 1 22 0 0) 1 23 0 0) V T)) (lk_wf (by decide)) ?_
  refine lk_iconst (v := 0) dX9_runs_15 (by decide) ?_
  refine lk_istore (L' := [(0, lk_vr 1 0), (1, lk_vi (nI (k))), (2, lk_vi (nI (ru))), (3, lk_vi 0), (4, lk_vi 0)]) dX9_runs_16 (by decide +kernel) rfl ?_
  refine lk_iconst (v := 0) dX9_runs_18 (by decide) ?_
  refine lk_istore (L' := [(0, lk_vr 1 0), (1, lk_vi (nI (k))), (2, lk_vi (nI (ru))), (3, lk_vi 0), (4, lk_vi 0), (5, lk_vi 0)]) dX9_runs_19 (by decide +kernel) rfl ?_
  have LP21 : ∀ (fu : Nat) (i j : Nat) (sp : Int32) (W : lk_N) (V1 U1 : lk_O), i ≤ (lk_qb B nf k).1 → j ≤ (lk_qa B nf k).1 → (ru = 0 → i < (lk_qb B nf k).1 → j < (lk_qa B nf k).1 → i = j ∨ i = j + 1) → lk_cok V1 n → lk_rok V1 → lk_fx [0, 6, 7, 8, 9, 10, 11, 18, 19, 20, 21, 22, 23] σ W → lk_mvd σ W B nf k i j → W 1 22 0 = nI (i + j) → W 1 23 0 = sp → lk_kz σ W none → lk_lq W (lk_qb B nf k) (lk_qa B nf k) → lk_run B V T nf k ru = lk_rr (B 2) (B 1) (lk_qb B nf k).2 (lk_qa B nf k).2 (lk_qb B nf k).1 (lk_qa B nf k).1 k ru ((lk_qb B nf k).1 + (lk_qa B nf k).1 - i - j) i j sp V1 U1 → (lk_qb B nf k).1 + (lk_qa B nf k).1 - i - j < fu → lk_W l X mX9_runs (d + 5) 21 [(0, lk_vr 1 0), (1, lk_vi (nI (k))), (2, lk_vi (nI (ru))), (3, lk_vi 0), (4, lk_vi (nI (i))), (5, lk_vi (nI (j)))] [] (lk_ms W V1 T) τ Q := by
    intro fu
    induction fu with
    | zero => intro i j sp W V1 U1 hi hj hal hc hrk hWf hMv hD hS hWk hq hI hfu; exact absurd hfu (by omega)
    | succ fu ih =>
      intro i j sp W V1 U1 hi hj hal hc hrk hWf hMv hD hS hWk hq hI hfu
      refine lk_iload dX9_runs_21 rfl ?_
      refine lk_aload_n dX9_runs_23 rfl rfl ?_
      refine lk_getIv (v := (nI ((lk_qb B nf k).1))) (f := 18) dX9_runs_24 rfl fX9_168 (by decide) (by decide) ((lk_rf (by decide)).trans hq.1) ?_
      refine lk_icmp_ltN (a := i) (b := (lk_qb B nf k).1) (tgt := 39) dX9_runs_27 (by decide) (by omega) (by omega) (fun hh1 => ?_) (fun hh1 => ?_)
      ·
        refine lk_aload_n dX9_runs_39 rfl rfl ?_
        refine lk_iload_n dX9_runs_40 rfl rfl ?_
        refine lk_iload_n dX9_runs_41 rfl rfl ?_
        refine lk_iload dX9_runs_42 rfl ?_
        refine lk_iload dX9_runs_44 rfl ?_
        have hor : i < (lk_qb B nf k).1 ∨ j < (lk_qa B nf k).1 := by omega
        have hm : (lk_qb B nf k).1 + (lk_qa B nf k).1 - i - j = ((lk_qb B nf k).1 + (lk_qa B nf k).1 - i - j - 1) + 1 := by omega
        rcases hfb : lk_frb (B 2) (lk_qb B nf k).2 (lk_qa B nf k).2 (lk_qb B nf k).1 (lk_qa B nf k).1 i j (V1 5 k) ru with _ | _
        ·
          have hj2 := lk_frbm_f hfb hor
          have hql : ((lk_qa B nf k).2 j) < 12 := by have := hhl j hj2; omega
          have hqp := lk_gat_p B (nI (k + 1)) 0 nf j hj2
          refine lk_callV (o := 1) (as := [lk_vi (nI (k)), lk_vi (nI (ru)), lk_vi (nI (i)), lk_vi (nI (j))]) (S := []) dX9_runs_46 rfl vX9_isFromBelow rfl lX9_202 rfl rfl (Nat.le_of_ble_eq_true rfl) (tX9_isFromBelow l X (d + 4) W τ (k := (k)) (ru := (ru)) (i := (i)) (j := (j)) (V := V1) (T := T) (g := lk_qb B nf k) (h := lk_qa B nf k) (hq := hq) (R := B 2) (nf := nf) (hn12 := hn12) (hk := hk6) (hru := hru) (hi := hi) (hj := hj) (hg := hgl) (hh := hhl) (hg12 := by omega) (hh12 := by omega) (hK := (fun b hb => ((hMv.1 (78 + b) (fun c hc => by omega)).trans (hB b hb).2.2.1))) (h5 := (hc.2.2.2 k hk6).2.2.2.2.2.2) (hal := hal)) ?_
          refine lk_k3 ?_
          refine lk_cast (pc' := 49) (S' := [lk_vi (if lk_frb (B 2) (lk_qb B nf k).2 (lk_qa B nf k).2 (lk_qb B nf k).1 (lk_qa B nf k).1 (i) (j) (V1 5 (k)) (ru) = true then 1 else 0)]) rfl rfl rfl ?_
          refine lk_eqtop (y := 0) (by rw [hfb]; rfl) ?_
          refine lk_istore (L' := [(0, lk_vr 1 0), (1, lk_vi (nI (k))), (2, lk_vi (nI (ru))), (3, lk_vi 0), (4, lk_vi (nI (i))), (5, lk_vi (nI (j))), (6, lk_vi 0)]) dX9_runs_49 (by decide +kernel) rfl ?_
          refine lk_aload_n dX9_runs_51 rfl rfl ?_
          refine lk_iload dX9_runs_52 rfl ?_
          refine lk_if_eq (tgt := 67) dX9_runs_54 (by decide) (fun hh2 => ?_) (fun hh2 => absurd hh2 (by decide))
          refine lk_aload_n dX9_runs_67 rfl rfl ?_
          refine lk_getR (f := 21) dX9_runs_68 rfl fX9_33 (by decide) (by decide) ?_
          refine lk_iload dX9_runs_71 rfl ?_
          refine lk_ialdN (f := 21) (i := j) dX9_runs_73 rfl (by decide) rfl (by omega) (by decide) ?_
          refine lk_eqtop (y := (nI ((lk_qa B nf k).2 j))) ((lk_rf (by decide)).trans (hq.2.2.2 j hj2)) ?_
          refine lk_iload_n dX9_runs_74 rfl rfl ?_
          rcases hp : lk_pas V1 k false (B 1 ((lk_qa B nf k).2 j)) with V2 | q
          ·
            refine lk_callV (o := 1) (as := [lk_vi (nI ((lk_qa B nf k).2 j)), lk_vi 0]) (S := []) dX9_runs_75 rfl vX9_boatGoes rfl lX9_159 rfl rfl (Nat.le_of_ble_eq_true rfl) (tX9_boatGoes_dn0_ok l X d W τ (b := ((lk_qa B nf k).2 j)) (V := V1) (T := T) (hb := hql) (n := n) (k := k) (z := (B 1 ((lk_qa B nf k).2 j))) (hV := hc) (hr := hrk) (hk := hk) (hu := (hMv.1 (90 + ((lk_qa B nf k).2 j)) (fun c hc => by omega)).trans ((hB _ (hhl j hj2)).2.2.2.1.trans hqp.2)) (hre := (hMv.2.2.2 _ (hhl j hj2) (fun a ha z => lk_qab (show a < (lk_qb B nf k).1 by omega) hj2 z) (fun a ha z => by have := lk_gat_i B (nI (k + 1)) 0 nf a j (by have : (lk_qa B nf k).1 = (lk_gat B (nI (k + 1)) 0 nf).1 := rfl; omega) hj2 z; omega)).trans hqp.1) (hs := (hMv.1 (66 + ((lk_qa B nf k).2 j)) (fun c hc => by omega)).trans (hB _ (hhl j hj2)).2.1) (W := V2) (h := hp)) ?_
            refine lk_k3 ?_
            refine lk_cast (pc' := 78) (S' := [lk_vi 1]) rfl rfl rfl ?_
            refine lk_if_ne (tgt := 82) dX9_runs_78 (by decide) (fun hh3 => ?_) (fun hh3 => absurd hh3 (by decide))
            refine lk_iload dX9_runs_82 rfl ?_
            refine lk_if_eq (tgt := 93) dX9_runs_84 (by decide) (fun hh4 => ?_) (fun hh4 => absurd hh4 (by decide))
            refine lk_iincN (a := j) (m := 1) (L' := [(0, lk_vr 1 0), (1, lk_vi (nI (k))), (2, lk_vi (nI (ru))), (3, lk_vi 0), (4, lk_vi (nI (i))), (5, lk_vi (nI (j + 1))), (6, lk_vi 0)]) dX9_runs_93 rfl rfl (by decide +kernel) rfl ?_
            refine lk_aload_n dX9_runs_96 rfl rfl ?_
            refine lk_dup dX9_runs_97 rfl ?_
            refine lk_getIv (v := (W 1 22 (0))) (f := 22) dX9_runs_98 rfl fX9_196 (by decide) (by decide) ((lk_rf (by decide)).trans rfl) ?_
            refine lk_iconst (v := 1) dX9_runs_101 (by decide) ?_
            refine lk_iadd dX9_runs_102 ?_
            refine lk_putI (f := 22) dX9_runs_103 rfl fX9_196 (by decide) (by decide) ?_
            refine lk_sg (σ' := (lk_ms (lk_up (lk_up (lk_up W 1 6 0 (V1 6 (k + 1) - V2 6 (k + 1))) 1 0 (102 + ((lk_qa B nf k).2 j)) (nI (k))) 1 22 0 ((W 1 22 (0)) + 1)) V2 T)) (lk_wf (by decide)) ?_
            refine lk_aload_n dX9_runs_106 rfl rfl ?_
            refine lk_dup dX9_runs_107 rfl ?_
            refine lk_getIv (v := (W 1 23 (0))) (f := 23) dX9_runs_108 rfl fX9_199 (by decide) (by decide) ((lk_rf (by decide)).trans rfl) ?_
            refine lk_aload_n dX9_runs_111 rfl rfl ?_
            refine lk_getIv (v := ((V1 6 (k + 1) - V2 6 (k + 1)))) (f := 6) dX9_runs_112 rfl fX9_137 (by decide) (by decide) ((lk_rf (by decide)).trans rfl) ?_
            refine lk_iadd dX9_runs_115 ?_
            refine lk_putI (f := 23) dX9_runs_116 rfl fX9_199 (by decide) (by decide) ?_
            refine lk_sg (σ' := (lk_ms (lk_up (lk_up (lk_up (lk_up W 1 6 0 (V1 6 (k + 1) - V2 6 (k + 1))) 1 0 (102 + ((lk_qa B nf k).2 j)) (nI (k))) 1 22 0 ((W 1 22 (0)) + 1)) 1 23 0 ((W 1 23 (0)) + ((V1 6 (k + 1) - V2 6 (k + 1))))) V2 T)) (lk_wf (by decide)) ?_
            refine lk_goto (tgt := 21) dX9_runs_119 (by decide) ?_
            refine lk_sub (L' := [(0, lk_vr 1 0), (1, lk_vi (nI (k))), (2, lk_vi (nI (ru))), (3, lk_vi 0), (4, lk_vi (nI (i))), (5, lk_vi (nI (j + 1)))]) [0, 1, 2, 3, 4, 5] rfl ?_
            rw [hm, lk_rr, hfb] at hI
            simp only [hp] at hI
            exact ih i (j + 1) (sp + (V1 6 (k + 1) - V2 6 (k + 1))) ((lk_up (lk_up (lk_up (lk_up W 1 6 0 (V1 6 (k + 1) - V2 6 (k + 1))) 1 0 (102 + ((lk_qa B nf k).2 j)) (nI (k))) 1 22 0 ((W 1 22 (0)) + 1)) 1 23 0 ((W 1 23 (0)) + ((V1 6 (k + 1) - V2 6 (k + 1)))))) V2 (lk_tad U1 (V1 6 (k + 1) - V2 6 (k + 1))) (by omega) (by omega) (by
              intro h0 h1 h2
              have h3 := hal h0 (by omega) (by omega)
              rw [h0, lk_frbm_0 (by omega) (by omega)] at hfb
              have h4 := of_decide_eq_false hfb
              omega) (lk_pas_cok hp hk hc (hz _ (hhl j hj2)).1 (hz _ (hhl j hj2)).2) (lk_pas_rok hrk hk6 hp) (lk_fx_up (lk_fx_up (lk_fx_up (lk_fx_up hWf (by decide)) (by decide)) (by decide)) (by decide)) (lk_mvd_e (lk_mvd_a hMv hi hj2) (by funext x; simp [lk_up])) (by
              show W 1 22 0 + 1 = _
              rw [hD]; exact nI_add _ 1) (by show W 1 23 0 + _ = _; rw [hS]) ⟨hWk.1, hWk.2⟩ (lk_lq_e (S := [0, 6, 22, 23]) (lk_fx_up (lk_fx_up (lk_fx_up (lk_fx_up (lk_fx_rf _ _) (by decide)) (by decide)) (by decide)) (by decide)) (by decide) (by decide) (by decide) (by decide) hq) (by rw [hI]; congr 1 <;> omega) (by omega)
          ·
            refine lk_callV (o := 1) (as := [lk_vi (nI ((lk_qa B nf k).2 j)), lk_vi 0]) (S := []) dX9_runs_75 rfl vX9_boatGoes rfl lX9_159 rfl rfl (Nat.le_of_ble_eq_true rfl) (tX9_boatGoes_dn0_no l X d W τ (b := ((lk_qa B nf k).2 j)) (V := V1) (T := T) (hb := hql) (n := n) (k := k) (z := (B 1 ((lk_qa B nf k).2 j))) (hV := hc) (hr := hrk) (hk := hk) (hu := (hMv.1 (90 + ((lk_qa B nf k).2 j)) (fun c hc => by omega)).trans ((hB _ (hhl j hj2)).2.2.2.1.trans hqp.2)) (hre := (hMv.2.2.2 _ (hhl j hj2) (fun a ha z => lk_qab (show a < (lk_qb B nf k).1 by omega) hj2 z) (fun a ha z => by have := lk_gat_i B (nI (k + 1)) 0 nf a j (by have : (lk_qa B nf k).1 = (lk_gat B (nI (k + 1)) 0 nf).1 := rfl; omega) hj2 z; omega)).trans hqp.1) (hs := (hMv.1 (66 + ((lk_qa B nf k).2 j)) (fun c hc => by omega)).trans (hB _ (hhl j hj2)).2.1) (q := q) (h := hp)) ?_
            refine lk_k5 (fun s1 => ?_)
            refine lk_cast (pc' := 78) (S' := [lk_vi 0]) rfl rfl rfl ?_
            refine lk_sg (σ' := (lk_ms (lk_up (lk_bar W q) 1 6 0 s1) V1 T)) rfl ?_
            refine lk_if_ne (tgt := 82) dX9_runs_78 (by decide) (fun hh5 => absurd hh5 (by decide)) (fun hh5 => ?_)
            refine lk_vret dX9_runs_81 rfl ?_
            rw [hQ]
            rw [hm, lk_rr, hfb] at hI
            simp only [hp] at hI
            rw [hI]
            exact ⟨rfl, rfl, (lk_up (lk_bar W q) 1 6 0 s1), rfl, (lk_fx_up (lk_fx_bar hWf (by decide) (by decide) (by decide)) (by decide)), lk_mvd_e hMv rfl, hD, hS, ⟨hWk.1, hWk.2⟩⟩
        ·
          have hi2 := lk_frbm_t hfb hor hi
          have hql : ((lk_qb B nf k).2 i) < 12 := by have := hgl i hi2; omega
          have hqp := lk_gat_p B (nI k) 1 nf i hi2
          refine lk_callV (o := 1) (as := [lk_vi (nI (k)), lk_vi (nI (ru)), lk_vi (nI (i)), lk_vi (nI (j))]) (S := []) dX9_runs_46 rfl vX9_isFromBelow rfl lX9_202 rfl rfl (Nat.le_of_ble_eq_true rfl) (tX9_isFromBelow l X (d + 4) W τ (k := (k)) (ru := (ru)) (i := (i)) (j := (j)) (V := V1) (T := T) (g := lk_qb B nf k) (h := lk_qa B nf k) (hq := hq) (R := B 2) (nf := nf) (hn12 := hn12) (hk := hk6) (hru := hru) (hi := hi) (hj := hj) (hg := hgl) (hh := hhl) (hg12 := by omega) (hh12 := by omega) (hK := (fun b hb => ((hMv.1 (78 + b) (fun c hc => by omega)).trans (hB b hb).2.2.1))) (h5 := (hc.2.2.2 k hk6).2.2.2.2.2.2) (hal := hal)) ?_
          refine lk_k3 ?_
          refine lk_cast (pc' := 49) (S' := [lk_vi (if lk_frb (B 2) (lk_qb B nf k).2 (lk_qa B nf k).2 (lk_qb B nf k).1 (lk_qa B nf k).1 (i) (j) (V1 5 (k)) (ru) = true then 1 else 0)]) rfl rfl rfl ?_
          refine lk_eqtop (y := 1) (by rw [hfb]; rfl) ?_
          refine lk_istore (L' := [(0, lk_vr 1 0), (1, lk_vi (nI (k))), (2, lk_vi (nI (ru))), (3, lk_vi 0), (4, lk_vi (nI (i))), (5, lk_vi (nI (j))), (6, lk_vi 1)]) dX9_runs_49 (by decide +kernel) rfl ?_
          refine lk_aload_n dX9_runs_51 rfl rfl ?_
          refine lk_iload dX9_runs_52 rfl ?_
          refine lk_if_eq (tgt := 67) dX9_runs_54 (by decide) (fun hh6 => absurd hh6 (by decide)) (fun hh6 => ?_)
          refine lk_aload_n dX9_runs_57 rfl rfl ?_
          refine lk_getR (f := 20) dX9_runs_58 rfl fX9_30 (by decide) (by decide) ?_
          refine lk_iload dX9_runs_61 rfl ?_
          refine lk_ialdN (f := 20) (i := i) dX9_runs_63 rfl (by decide) rfl (by omega) (by decide) ?_
          refine lk_eqtop (y := (nI ((lk_qb B nf k).2 i))) ((lk_rf (by decide)).trans (hq.2.2.1 i hi2)) ?_
          refine lk_goto (tgt := 74) dX9_runs_64 (by decide) ?_
          refine lk_iload_n dX9_runs_74 rfl rfl ?_
          rcases hp : lk_pas V1 k true (B 1 ((lk_qb B nf k).2 i)) with V2 | q
          ·
            refine lk_callV (o := 1) (as := [lk_vi (nI ((lk_qb B nf k).2 i)), lk_vi 0]) (S := []) dX9_runs_75 rfl vX9_boatGoes rfl lX9_159 rfl rfl (Nat.le_of_ble_eq_true rfl) (tX9_boatGoes_up0_ok l X d W τ (b := ((lk_qb B nf k).2 i)) (V := V1) (T := T) (hb := hql) (n := n) (k := k) (z := (B 1 ((lk_qb B nf k).2 i))) (hV := hc) (hr := hrk) (hk := hk) (hu := (hMv.1 (90 + ((lk_qb B nf k).2 i)) (fun c hc => by omega)).trans ((hB _ (hgl i hi2)).2.2.2.1.trans hqp.2)) (hre := (hMv.2.2.2 _ (hgl i hi2) (fun a ha z => by have := lk_gat_i B (nI k) 1 nf a i (by have : (lk_qb B nf k).1 = (lk_gat B (nI k) 1 nf).1 := rfl; omega) hi2 z; omega) (fun a ha z => lk_qab hi2 (show a < (lk_qa B nf k).1 by omega) z.symm)).trans hqp.1) (hs := (hMv.1 (66 + ((lk_qb B nf k).2 i)) (fun c hc => by omega)).trans (hB _ (hgl i hi2)).2.1) (W := V2) (h := hp)) ?_
            refine lk_k3 ?_
            refine lk_cast (pc' := 78) (S' := [lk_vi 1]) rfl rfl rfl ?_
            refine lk_if_ne (tgt := 82) dX9_runs_78 (by decide) (fun hh7 => ?_) (fun hh7 => absurd hh7 (by decide))
            refine lk_iload dX9_runs_82 rfl ?_
            refine lk_if_eq (tgt := 93) dX9_runs_84 (by decide) (fun hh8 => absurd hh8 (by decide)) (fun hh8 => ?_)
            refine lk_iincN (a := i) (m := 1) (L' := [(0, lk_vr 1 0), (1, lk_vi (nI (k))), (2, lk_vi (nI (ru))), (3, lk_vi 0), (4, lk_vi (nI (i + 1))), (5, lk_vi (nI (j))), (6, lk_vi 1)]) dX9_runs_87 rfl rfl (by decide +kernel) rfl ?_
            refine lk_goto (tgt := 96) dX9_runs_90 (by decide) ?_
            refine lk_aload_n dX9_runs_96 rfl rfl ?_
            refine lk_dup dX9_runs_97 rfl ?_
            refine lk_getIv (v := (W 1 22 (0))) (f := 22) dX9_runs_98 rfl fX9_196 (by decide) (by decide) ((lk_rf (by decide)).trans rfl) ?_
            refine lk_iconst (v := 1) dX9_runs_101 (by decide) ?_
            refine lk_iadd dX9_runs_102 ?_
            refine lk_putI (f := 22) dX9_runs_103 rfl fX9_196 (by decide) (by decide) ?_
            refine lk_sg (σ' := (lk_ms (lk_up (lk_up (lk_up W 1 6 0 (V1 6 (k + 1) - V2 6 (k + 1))) 1 0 (102 + ((lk_qb B nf k).2 i)) (nI (k + 1))) 1 22 0 ((W 1 22 (0)) + 1)) V2 T)) (lk_wf (by decide)) ?_
            refine lk_aload_n dX9_runs_106 rfl rfl ?_
            refine lk_dup dX9_runs_107 rfl ?_
            refine lk_getIv (v := (W 1 23 (0))) (f := 23) dX9_runs_108 rfl fX9_199 (by decide) (by decide) ((lk_rf (by decide)).trans rfl) ?_
            refine lk_aload_n dX9_runs_111 rfl rfl ?_
            refine lk_getIv (v := ((V1 6 (k + 1) - V2 6 (k + 1)))) (f := 6) dX9_runs_112 rfl fX9_137 (by decide) (by decide) ((lk_rf (by decide)).trans rfl) ?_
            refine lk_iadd dX9_runs_115 ?_
            refine lk_putI (f := 23) dX9_runs_116 rfl fX9_199 (by decide) (by decide) ?_
            refine lk_sg (σ' := (lk_ms (lk_up (lk_up (lk_up (lk_up W 1 6 0 (V1 6 (k + 1) - V2 6 (k + 1))) 1 0 (102 + ((lk_qb B nf k).2 i)) (nI (k + 1))) 1 22 0 ((W 1 22 (0)) + 1)) 1 23 0 ((W 1 23 (0)) + ((V1 6 (k + 1) - V2 6 (k + 1))))) V2 T)) (lk_wf (by decide)) ?_
            refine lk_goto (tgt := 21) dX9_runs_119 (by decide) ?_
            refine lk_sub (L' := [(0, lk_vr 1 0), (1, lk_vi (nI (k))), (2, lk_vi (nI (ru))), (3, lk_vi 0), (4, lk_vi (nI (i + 1))), (5, lk_vi (nI (j)))]) [0, 1, 2, 3, 4, 5] rfl ?_
            rw [hm, lk_rr, hfb] at hI
            simp only [hp] at hI
            exact ih (i + 1) j (sp + (V1 6 (k + 1) - V2 6 (k + 1))) ((lk_up (lk_up (lk_up (lk_up W 1 6 0 (V1 6 (k + 1) - V2 6 (k + 1))) 1 0 (102 + ((lk_qb B nf k).2 i)) (nI (k + 1))) 1 22 0 ((W 1 22 (0)) + 1)) 1 23 0 ((W 1 23 (0)) + ((V1 6 (k + 1) - V2 6 (k + 1)))))) V2 (lk_tad U1 (V1 6 (k + 1) - V2 6 (k + 1))) (by omega) (by omega) (by
              intro h0 h1 h2
              have h3 := hal h0 (by omega) (by omega)
              rw [h0, lk_frbm_0 (by omega) (by omega)] at hfb
              have h4 := of_decide_eq_true hfb
              omega) (lk_pas_cok hp hk hc (hz _ (hgl i hi2)).1 (hz _ (hgl i hi2)).2) (lk_pas_rok hrk hk6 hp) (lk_fx_up (lk_fx_up (lk_fx_up (lk_fx_up hWf (by decide)) (by decide)) (by decide)) (by decide)) (lk_mvd_e (lk_mvd_b hMv hi2 hj) (by funext x; simp [lk_up])) (by
              show W 1 22 0 + 1 = _
              rw [hD]; rw [show i + 1 + j = i + j + 1 by omega]; exact nI_add _ 1) (by show W 1 23 0 + _ = _; rw [hS]) ⟨hWk.1, hWk.2⟩ (lk_lq_e (S := [0, 6, 22, 23]) (lk_fx_up (lk_fx_up (lk_fx_up (lk_fx_up (lk_fx_rf _ _) (by decide)) (by decide)) (by decide)) (by decide)) (by decide) (by decide) (by decide) (by decide) hq) (by rw [hI]; congr 1 <;> omega) (by omega)
          ·
            refine lk_callV (o := 1) (as := [lk_vi (nI ((lk_qb B nf k).2 i)), lk_vi 0]) (S := []) dX9_runs_75 rfl vX9_boatGoes rfl lX9_159 rfl rfl (Nat.le_of_ble_eq_true rfl) (tX9_boatGoes_up0_no l X d W τ (b := ((lk_qb B nf k).2 i)) (V := V1) (T := T) (hb := hql) (n := n) (k := k) (z := (B 1 ((lk_qb B nf k).2 i))) (hV := hc) (hr := hrk) (hk := hk) (hu := (hMv.1 (90 + ((lk_qb B nf k).2 i)) (fun c hc => by omega)).trans ((hB _ (hgl i hi2)).2.2.2.1.trans hqp.2)) (hre := (hMv.2.2.2 _ (hgl i hi2) (fun a ha z => by have := lk_gat_i B (nI k) 1 nf a i (by have : (lk_qb B nf k).1 = (lk_gat B (nI k) 1 nf).1 := rfl; omega) hi2 z; omega) (fun a ha z => lk_qab hi2 (show a < (lk_qa B nf k).1 by omega) z.symm)).trans hqp.1) (hs := (hMv.1 (66 + ((lk_qb B nf k).2 i)) (fun c hc => by omega)).trans (hB _ (hgl i hi2)).2.1) (q := q) (h := hp)) ?_
            refine lk_k5 (fun s1 => ?_)
            refine lk_cast (pc' := 78) (S' := [lk_vi 0]) rfl rfl rfl ?_
            refine lk_sg (σ' := (lk_ms (lk_up (lk_bar W q) 1 6 0 s1) V1 T)) rfl ?_
            refine lk_if_ne (tgt := 82) dX9_runs_78 (by decide) (fun hh9 => absurd hh9 (by decide)) (fun hh9 => ?_)
            refine lk_vret dX9_runs_81 rfl ?_
            rw [hQ]
            rw [hm, lk_rr, hfb] at hI
            simp only [hp] at hI
            rw [hI]
            exact ⟨rfl, rfl, (lk_up (lk_bar W q) 1 6 0 s1), rfl, (lk_fx_up (lk_fx_bar hWf (by decide) (by decide) (by decide)) (by decide)), lk_mvd_e hMv rfl, hD, hS, ⟨hWk.1, hWk.2⟩⟩
      ·
        refine lk_iload dX9_runs_30 rfl ?_
        refine lk_aload_n dX9_runs_32 rfl rfl ?_
        refine lk_getIv (v := (nI ((lk_qa B nf k).1))) (f := 19) dX9_runs_33 rfl fX9_171 (by decide) (by decide) ((lk_rf (by decide)).trans hq.2.1) ?_
        refine lk_icmp_geN (a := j) (b := (lk_qa B nf k).1) (tgt := 122) dX9_runs_36 (by decide) (by omega) (by omega) (fun hh10 => ?_) (fun hh10 => ?_)
        ·
          refine lk_vret dX9_runs_122 rfl ?_
          rw [hQ]
          rw [show (lk_qb B nf k).1 + (lk_qa B nf k).1 - i - j = 0 by omega, lk_rr] at hI
          rw [hI]
          exact ⟨rfl, rfl, W, rfl, hWf, hMv, hD, hS, by simpa using hWk⟩
        ·
          refine lk_aload_n dX9_runs_39 rfl rfl ?_
          refine lk_iload_n dX9_runs_40 rfl rfl ?_
          refine lk_iload_n dX9_runs_41 rfl rfl ?_
          refine lk_iload dX9_runs_42 rfl ?_
          refine lk_iload dX9_runs_44 rfl ?_
          have hor : i < (lk_qb B nf k).1 ∨ j < (lk_qa B nf k).1 := by omega
          have hm : (lk_qb B nf k).1 + (lk_qa B nf k).1 - i - j = ((lk_qb B nf k).1 + (lk_qa B nf k).1 - i - j - 1) + 1 := by omega
          rcases hfb : lk_frb (B 2) (lk_qb B nf k).2 (lk_qa B nf k).2 (lk_qb B nf k).1 (lk_qa B nf k).1 i j (V1 5 k) ru with _ | _
          ·
            have hj2 := lk_frbm_f hfb hor
            have hql : ((lk_qa B nf k).2 j) < 12 := by have := hhl j hj2; omega
            have hqp := lk_gat_p B (nI (k + 1)) 0 nf j hj2
            refine lk_callV (o := 1) (as := [lk_vi (nI (k)), lk_vi (nI (ru)), lk_vi (nI (i)), lk_vi (nI (j))]) (S := []) dX9_runs_46 rfl vX9_isFromBelow rfl lX9_202 rfl rfl (Nat.le_of_ble_eq_true rfl) (tX9_isFromBelow l X (d + 4) W τ (k := (k)) (ru := (ru)) (i := (i)) (j := (j)) (V := V1) (T := T) (g := lk_qb B nf k) (h := lk_qa B nf k) (hq := hq) (R := B 2) (nf := nf) (hn12 := hn12) (hk := hk6) (hru := hru) (hi := hi) (hj := hj) (hg := hgl) (hh := hhl) (hg12 := by omega) (hh12 := by omega) (hK := (fun b hb => ((hMv.1 (78 + b) (fun c hc => by omega)).trans (hB b hb).2.2.1))) (h5 := (hc.2.2.2 k hk6).2.2.2.2.2.2) (hal := hal)) ?_
            refine lk_k3 ?_
            refine lk_cast (pc' := 49) (S' := [lk_vi (if lk_frb (B 2) (lk_qb B nf k).2 (lk_qa B nf k).2 (lk_qb B nf k).1 (lk_qa B nf k).1 (i) (j) (V1 5 (k)) (ru) = true then 1 else 0)]) rfl rfl rfl ?_
            refine lk_eqtop (y := 0) (by rw [hfb]; rfl) ?_
            refine lk_istore (L' := [(0, lk_vr 1 0), (1, lk_vi (nI (k))), (2, lk_vi (nI (ru))), (3, lk_vi 0), (4, lk_vi (nI (i))), (5, lk_vi (nI (j))), (6, lk_vi 0)]) dX9_runs_49 (by decide +kernel) rfl ?_
            refine lk_aload_n dX9_runs_51 rfl rfl ?_
            refine lk_iload dX9_runs_52 rfl ?_
            refine lk_if_eq (tgt := 67) dX9_runs_54 (by decide) (fun hh11 => ?_) (fun hh11 => absurd hh11 (by decide))
            refine lk_aload_n dX9_runs_67 rfl rfl ?_
            refine lk_getR (f := 21) dX9_runs_68 rfl fX9_33 (by decide) (by decide) ?_
            refine lk_iload dX9_runs_71 rfl ?_
            refine lk_ialdN (f := 21) (i := j) dX9_runs_73 rfl (by decide) rfl (by omega) (by decide) ?_
            refine lk_eqtop (y := (nI ((lk_qa B nf k).2 j))) ((lk_rf (by decide)).trans (hq.2.2.2 j hj2)) ?_
            refine lk_iload_n dX9_runs_74 rfl rfl ?_
            rcases hp : lk_pas V1 k false (B 1 ((lk_qa B nf k).2 j)) with V2 | q
            ·
              refine lk_callV (o := 1) (as := [lk_vi (nI ((lk_qa B nf k).2 j)), lk_vi 0]) (S := []) dX9_runs_75 rfl vX9_boatGoes rfl lX9_159 rfl rfl (Nat.le_of_ble_eq_true rfl) (tX9_boatGoes_dn0_ok l X d W τ (b := ((lk_qa B nf k).2 j)) (V := V1) (T := T) (hb := hql) (n := n) (k := k) (z := (B 1 ((lk_qa B nf k).2 j))) (hV := hc) (hr := hrk) (hk := hk) (hu := (hMv.1 (90 + ((lk_qa B nf k).2 j)) (fun c hc => by omega)).trans ((hB _ (hhl j hj2)).2.2.2.1.trans hqp.2)) (hre := (hMv.2.2.2 _ (hhl j hj2) (fun a ha z => lk_qab (show a < (lk_qb B nf k).1 by omega) hj2 z) (fun a ha z => by have := lk_gat_i B (nI (k + 1)) 0 nf a j (by have : (lk_qa B nf k).1 = (lk_gat B (nI (k + 1)) 0 nf).1 := rfl; omega) hj2 z; omega)).trans hqp.1) (hs := (hMv.1 (66 + ((lk_qa B nf k).2 j)) (fun c hc => by omega)).trans (hB _ (hhl j hj2)).2.1) (W := V2) (h := hp)) ?_
              refine lk_k3 ?_
              refine lk_cast (pc' := 78) (S' := [lk_vi 1]) rfl rfl rfl ?_
              refine lk_if_ne (tgt := 82) dX9_runs_78 (by decide) (fun hh12 => ?_) (fun hh12 => absurd hh12 (by decide))
              refine lk_iload dX9_runs_82 rfl ?_
              refine lk_if_eq (tgt := 93) dX9_runs_84 (by decide) (fun hh13 => ?_) (fun hh13 => absurd hh13 (by decide))
              refine lk_iincN (a := j) (m := 1) (L' := [(0, lk_vr 1 0), (1, lk_vi (nI (k))), (2, lk_vi (nI (ru))), (3, lk_vi 0), (4, lk_vi (nI (i))), (5, lk_vi (nI (j + 1))), (6, lk_vi 0)]) dX9_runs_93 rfl rfl (by decide +kernel) rfl ?_
              refine lk_aload_n dX9_runs_96 rfl rfl ?_
              refine lk_dup dX9_runs_97 rfl ?_
              refine lk_getIv (v := (W 1 22 (0))) (f := 22) dX9_runs_98 rfl fX9_196 (by decide) (by decide) ((lk_rf (by decide)).trans rfl) ?_
              refine lk_iconst (v := 1) dX9_runs_101 (by decide) ?_
              refine lk_iadd dX9_runs_102 ?_
              refine lk_putI (f := 22) dX9_runs_103 rfl fX9_196 (by decide) (by decide) ?_
              refine lk_sg (σ' := (lk_ms (lk_up (lk_up (lk_up W 1 6 0 (V1 6 (k + 1) - V2 6 (k + 1))) 1 0 (102 + ((lk_qa B nf k).2 j)) (nI (k))) 1 22 0 ((W 1 22 (0)) + 1)) V2 T)) (lk_wf (by decide)) ?_
              refine lk_aload_n dX9_runs_106 rfl rfl ?_
              refine lk_dup dX9_runs_107 rfl ?_
              refine lk_getIv (v := (W 1 23 (0))) (f := 23) dX9_runs_108 rfl fX9_199 (by decide) (by decide) ((lk_rf (by decide)).trans rfl) ?_
              refine lk_aload_n dX9_runs_111 rfl rfl ?_
              refine lk_getIv (v := ((V1 6 (k + 1) - V2 6 (k + 1)))) (f := 6) dX9_runs_112 rfl fX9_137 (by decide) (by decide) ((lk_rf (by decide)).trans rfl) ?_
              refine lk_iadd dX9_runs_115 ?_
              refine lk_putI (f := 23) dX9_runs_116 rfl fX9_199 (by decide) (by decide) ?_
              refine lk_sg (σ' := (lk_ms (lk_up (lk_up (lk_up (lk_up W 1 6 0 (V1 6 (k + 1) - V2 6 (k + 1))) 1 0 (102 + ((lk_qa B nf k).2 j)) (nI (k))) 1 22 0 ((W 1 22 (0)) + 1)) 1 23 0 ((W 1 23 (0)) + ((V1 6 (k + 1) - V2 6 (k + 1))))) V2 T)) (lk_wf (by decide)) ?_
              refine lk_goto (tgt := 21) dX9_runs_119 (by decide) ?_
              refine lk_sub (L' := [(0, lk_vr 1 0), (1, lk_vi (nI (k))), (2, lk_vi (nI (ru))), (3, lk_vi 0), (4, lk_vi (nI (i))), (5, lk_vi (nI (j + 1)))]) [0, 1, 2, 3, 4, 5] rfl ?_
              rw [hm, lk_rr, hfb] at hI
              simp only [hp] at hI
              exact ih i (j + 1) (sp + (V1 6 (k + 1) - V2 6 (k + 1))) ((lk_up (lk_up (lk_up (lk_up W 1 6 0 (V1 6 (k + 1) - V2 6 (k + 1))) 1 0 (102 + ((lk_qa B nf k).2 j)) (nI (k))) 1 22 0 ((W 1 22 (0)) + 1)) 1 23 0 ((W 1 23 (0)) + ((V1 6 (k + 1) - V2 6 (k + 1)))))) V2 (lk_tad U1 (V1 6 (k + 1) - V2 6 (k + 1))) (by omega) (by omega) (by
                intro h0 h1 h2
                have h3 := hal h0 (by omega) (by omega)
                rw [h0, lk_frbm_0 (by omega) (by omega)] at hfb
                have h4 := of_decide_eq_false hfb
                omega) (lk_pas_cok hp hk hc (hz _ (hhl j hj2)).1 (hz _ (hhl j hj2)).2) (lk_pas_rok hrk hk6 hp) (lk_fx_up (lk_fx_up (lk_fx_up (lk_fx_up hWf (by decide)) (by decide)) (by decide)) (by decide)) (lk_mvd_e (lk_mvd_a hMv hi hj2) (by funext x; simp [lk_up])) (by
                show W 1 22 0 + 1 = _
                rw [hD]; exact nI_add _ 1) (by show W 1 23 0 + _ = _; rw [hS]) ⟨hWk.1, hWk.2⟩ (lk_lq_e (S := [0, 6, 22, 23]) (lk_fx_up (lk_fx_up (lk_fx_up (lk_fx_up (lk_fx_rf _ _) (by decide)) (by decide)) (by decide)) (by decide)) (by decide) (by decide) (by decide) (by decide) hq) (by rw [hI]; congr 1 <;> omega) (by omega)
            ·
              refine lk_callV (o := 1) (as := [lk_vi (nI ((lk_qa B nf k).2 j)), lk_vi 0]) (S := []) dX9_runs_75 rfl vX9_boatGoes rfl lX9_159 rfl rfl (Nat.le_of_ble_eq_true rfl) (tX9_boatGoes_dn0_no l X d W τ (b := ((lk_qa B nf k).2 j)) (V := V1) (T := T) (hb := hql) (n := n) (k := k) (z := (B 1 ((lk_qa B nf k).2 j))) (hV := hc) (hr := hrk) (hk := hk) (hu := (hMv.1 (90 + ((lk_qa B nf k).2 j)) (fun c hc => by omega)).trans ((hB _ (hhl j hj2)).2.2.2.1.trans hqp.2)) (hre := (hMv.2.2.2 _ (hhl j hj2) (fun a ha z => lk_qab (show a < (lk_qb B nf k).1 by omega) hj2 z) (fun a ha z => by have := lk_gat_i B (nI (k + 1)) 0 nf a j (by have : (lk_qa B nf k).1 = (lk_gat B (nI (k + 1)) 0 nf).1 := rfl; omega) hj2 z; omega)).trans hqp.1) (hs := (hMv.1 (66 + ((lk_qa B nf k).2 j)) (fun c hc => by omega)).trans (hB _ (hhl j hj2)).2.1) (q := q) (h := hp)) ?_
              refine lk_k5 (fun s1 => ?_)
              refine lk_cast (pc' := 78) (S' := [lk_vi 0]) rfl rfl rfl ?_
              refine lk_sg (σ' := (lk_ms (lk_up (lk_bar W q) 1 6 0 s1) V1 T)) rfl ?_
              refine lk_if_ne (tgt := 82) dX9_runs_78 (by decide) (fun hh14 => absurd hh14 (by decide)) (fun hh14 => ?_)
              refine lk_vret dX9_runs_81 rfl ?_
              rw [hQ]
              rw [hm, lk_rr, hfb] at hI
              simp only [hp] at hI
              rw [hI]
              exact ⟨rfl, rfl, (lk_up (lk_bar W q) 1 6 0 s1), rfl, (lk_fx_up (lk_fx_bar hWf (by decide) (by decide) (by decide)) (by decide)), lk_mvd_e hMv rfl, hD, hS, ⟨hWk.1, hWk.2⟩⟩
          ·
            have hi2 := lk_frbm_t hfb hor hi
            have hql : ((lk_qb B nf k).2 i) < 12 := by have := hgl i hi2; omega
            have hqp := lk_gat_p B (nI k) 1 nf i hi2
            refine lk_callV (o := 1) (as := [lk_vi (nI (k)), lk_vi (nI (ru)), lk_vi (nI (i)), lk_vi (nI (j))]) (S := []) dX9_runs_46 rfl vX9_isFromBelow rfl lX9_202 rfl rfl (Nat.le_of_ble_eq_true rfl) (tX9_isFromBelow l X (d + 4) W τ (k := (k)) (ru := (ru)) (i := (i)) (j := (j)) (V := V1) (T := T) (g := lk_qb B nf k) (h := lk_qa B nf k) (hq := hq) (R := B 2) (nf := nf) (hn12 := hn12) (hk := hk6) (hru := hru) (hi := hi) (hj := hj) (hg := hgl) (hh := hhl) (hg12 := by omega) (hh12 := by omega) (hK := (fun b hb => ((hMv.1 (78 + b) (fun c hc => by omega)).trans (hB b hb).2.2.1))) (h5 := (hc.2.2.2 k hk6).2.2.2.2.2.2) (hal := hal)) ?_
            refine lk_k3 ?_
            refine lk_cast (pc' := 49) (S' := [lk_vi (if lk_frb (B 2) (lk_qb B nf k).2 (lk_qa B nf k).2 (lk_qb B nf k).1 (lk_qa B nf k).1 (i) (j) (V1 5 (k)) (ru) = true then 1 else 0)]) rfl rfl rfl ?_
            refine lk_eqtop (y := 1) (by rw [hfb]; rfl) ?_
            refine lk_istore (L' := [(0, lk_vr 1 0), (1, lk_vi (nI (k))), (2, lk_vi (nI (ru))), (3, lk_vi 0), (4, lk_vi (nI (i))), (5, lk_vi (nI (j))), (6, lk_vi 1)]) dX9_runs_49 (by decide +kernel) rfl ?_
            refine lk_aload_n dX9_runs_51 rfl rfl ?_
            refine lk_iload dX9_runs_52 rfl ?_
            refine lk_if_eq (tgt := 67) dX9_runs_54 (by decide) (fun hh15 => absurd hh15 (by decide)) (fun hh15 => ?_)
            refine lk_aload_n dX9_runs_57 rfl rfl ?_
            refine lk_getR (f := 20) dX9_runs_58 rfl fX9_30 (by decide) (by decide) ?_
            refine lk_iload dX9_runs_61 rfl ?_
            refine lk_ialdN (f := 20) (i := i) dX9_runs_63 rfl (by decide) rfl (by omega) (by decide) ?_
            refine lk_eqtop (y := (nI ((lk_qb B nf k).2 i))) ((lk_rf (by decide)).trans (hq.2.2.1 i hi2)) ?_
            refine lk_goto (tgt := 74) dX9_runs_64 (by decide) ?_
            refine lk_iload_n dX9_runs_74 rfl rfl ?_
            rcases hp : lk_pas V1 k true (B 1 ((lk_qb B nf k).2 i)) with V2 | q
            ·
              refine lk_callV (o := 1) (as := [lk_vi (nI ((lk_qb B nf k).2 i)), lk_vi 0]) (S := []) dX9_runs_75 rfl vX9_boatGoes rfl lX9_159 rfl rfl (Nat.le_of_ble_eq_true rfl) (tX9_boatGoes_up0_ok l X d W τ (b := ((lk_qb B nf k).2 i)) (V := V1) (T := T) (hb := hql) (n := n) (k := k) (z := (B 1 ((lk_qb B nf k).2 i))) (hV := hc) (hr := hrk) (hk := hk) (hu := (hMv.1 (90 + ((lk_qb B nf k).2 i)) (fun c hc => by omega)).trans ((hB _ (hgl i hi2)).2.2.2.1.trans hqp.2)) (hre := (hMv.2.2.2 _ (hgl i hi2) (fun a ha z => by have := lk_gat_i B (nI k) 1 nf a i (by have : (lk_qb B nf k).1 = (lk_gat B (nI k) 1 nf).1 := rfl; omega) hi2 z; omega) (fun a ha z => lk_qab hi2 (show a < (lk_qa B nf k).1 by omega) z.symm)).trans hqp.1) (hs := (hMv.1 (66 + ((lk_qb B nf k).2 i)) (fun c hc => by omega)).trans (hB _ (hgl i hi2)).2.1) (W := V2) (h := hp)) ?_
              refine lk_k3 ?_
              refine lk_cast (pc' := 78) (S' := [lk_vi 1]) rfl rfl rfl ?_
              refine lk_if_ne (tgt := 82) dX9_runs_78 (by decide) (fun hh16 => ?_) (fun hh16 => absurd hh16 (by decide))
              refine lk_iload dX9_runs_82 rfl ?_
              refine lk_if_eq (tgt := 93) dX9_runs_84 (by decide) (fun hh17 => absurd hh17 (by decide)) (fun hh17 => ?_)
              refine lk_iincN (a := i) (m := 1) (L' := [(0, lk_vr 1 0), (1, lk_vi (nI (k))), (2, lk_vi (nI (ru))), (3, lk_vi 0), (4, lk_vi (nI (i + 1))), (5, lk_vi (nI (j))), (6, lk_vi 1)]) dX9_runs_87 rfl rfl (by decide +kernel) rfl ?_
              refine lk_goto (tgt := 96) dX9_runs_90 (by decide) ?_
              refine lk_aload_n dX9_runs_96 rfl rfl ?_
              refine lk_dup dX9_runs_97 rfl ?_
              refine lk_getIv (v := (W 1 22 (0))) (f := 22) dX9_runs_98 rfl fX9_196 (by decide) (by decide) ((lk_rf (by decide)).trans rfl) ?_
              refine lk_iconst (v := 1) dX9_runs_101 (by decide) ?_
              refine lk_iadd dX9_runs_102 ?_
              refine lk_putI (f := 22) dX9_runs_103 rfl fX9_196 (by decide) (by decide) ?_
              refine lk_sg (σ' := (lk_ms (lk_up (lk_up (lk_up W 1 6 0 (V1 6 (k + 1) - V2 6 (k + 1))) 1 0 (102 + ((lk_qb B nf k).2 i)) (nI (k + 1))) 1 22 0 ((W 1 22 (0)) + 1)) V2 T)) (lk_wf (by decide)) ?_
              refine lk_aload_n dX9_runs_106 rfl rfl ?_
              refine lk_dup dX9_runs_107 rfl ?_
              refine lk_getIv (v := (W 1 23 (0))) (f := 23) dX9_runs_108 rfl fX9_199 (by decide) (by decide) ((lk_rf (by decide)).trans rfl) ?_
              refine lk_aload_n dX9_runs_111 rfl rfl ?_
              refine lk_getIv (v := ((V1 6 (k + 1) - V2 6 (k + 1)))) (f := 6) dX9_runs_112 rfl fX9_137 (by decide) (by decide) ((lk_rf (by decide)).trans rfl) ?_
              refine lk_iadd dX9_runs_115 ?_
              refine lk_putI (f := 23) dX9_runs_116 rfl fX9_199 (by decide) (by decide) ?_
              refine lk_sg (σ' := (lk_ms (lk_up (lk_up (lk_up (lk_up W 1 6 0 (V1 6 (k + 1) - V2 6 (k + 1))) 1 0 (102 + ((lk_qb B nf k).2 i)) (nI (k + 1))) 1 22 0 ((W 1 22 (0)) + 1)) 1 23 0 ((W 1 23 (0)) + ((V1 6 (k + 1) - V2 6 (k + 1))))) V2 T)) (lk_wf (by decide)) ?_
              refine lk_goto (tgt := 21) dX9_runs_119 (by decide) ?_
              refine lk_sub (L' := [(0, lk_vr 1 0), (1, lk_vi (nI (k))), (2, lk_vi (nI (ru))), (3, lk_vi 0), (4, lk_vi (nI (i + 1))), (5, lk_vi (nI (j)))]) [0, 1, 2, 3, 4, 5] rfl ?_
              rw [hm, lk_rr, hfb] at hI
              simp only [hp] at hI
              exact ih (i + 1) j (sp + (V1 6 (k + 1) - V2 6 (k + 1))) ((lk_up (lk_up (lk_up (lk_up W 1 6 0 (V1 6 (k + 1) - V2 6 (k + 1))) 1 0 (102 + ((lk_qb B nf k).2 i)) (nI (k + 1))) 1 22 0 ((W 1 22 (0)) + 1)) 1 23 0 ((W 1 23 (0)) + ((V1 6 (k + 1) - V2 6 (k + 1)))))) V2 (lk_tad U1 (V1 6 (k + 1) - V2 6 (k + 1))) (by omega) (by omega) (by
                intro h0 h1 h2
                have h3 := hal h0 (by omega) (by omega)
                rw [h0, lk_frbm_0 (by omega) (by omega)] at hfb
                have h4 := of_decide_eq_true hfb
                omega) (lk_pas_cok hp hk hc (hz _ (hgl i hi2)).1 (hz _ (hgl i hi2)).2) (lk_pas_rok hrk hk6 hp) (lk_fx_up (lk_fx_up (lk_fx_up (lk_fx_up hWf (by decide)) (by decide)) (by decide)) (by decide)) (lk_mvd_e (lk_mvd_b hMv hi2 hj) (by funext x; simp [lk_up])) (by
                show W 1 22 0 + 1 = _
                rw [hD]; rw [show i + 1 + j = i + j + 1 by omega]; exact nI_add _ 1) (by show W 1 23 0 + _ = _; rw [hS]) ⟨hWk.1, hWk.2⟩ (lk_lq_e (S := [0, 6, 22, 23]) (lk_fx_up (lk_fx_up (lk_fx_up (lk_fx_up (lk_fx_rf _ _) (by decide)) (by decide)) (by decide)) (by decide)) (by decide) (by decide) (by decide) (by decide) hq) (by rw [hI]; congr 1 <;> omega) (by omega)
            ·
              refine lk_callV (o := 1) (as := [lk_vi (nI ((lk_qb B nf k).2 i)), lk_vi 0]) (S := []) dX9_runs_75 rfl vX9_boatGoes rfl lX9_159 rfl rfl (Nat.le_of_ble_eq_true rfl) (tX9_boatGoes_up0_no l X d W τ (b := ((lk_qb B nf k).2 i)) (V := V1) (T := T) (hb := hql) (n := n) (k := k) (z := (B 1 ((lk_qb B nf k).2 i))) (hV := hc) (hr := hrk) (hk := hk) (hu := (hMv.1 (90 + ((lk_qb B nf k).2 i)) (fun c hc => by omega)).trans ((hB _ (hgl i hi2)).2.2.2.1.trans hqp.2)) (hre := (hMv.2.2.2 _ (hgl i hi2) (fun a ha z => by have := lk_gat_i B (nI k) 1 nf a i (by have : (lk_qb B nf k).1 = (lk_gat B (nI k) 1 nf).1 := rfl; omega) hi2 z; omega) (fun a ha z => lk_qab hi2 (show a < (lk_qa B nf k).1 by omega) z.symm)).trans hqp.1) (hs := (hMv.1 (66 + ((lk_qb B nf k).2 i)) (fun c hc => by omega)).trans (hB _ (hgl i hi2)).2.1) (q := q) (h := hp)) ?_
              refine lk_k5 (fun s1 => ?_)
              refine lk_cast (pc' := 78) (S' := [lk_vi 0]) rfl rfl rfl ?_
              refine lk_sg (σ' := (lk_ms (lk_up (lk_bar W q) 1 6 0 s1) V1 T)) rfl ?_
              refine lk_if_ne (tgt := 82) dX9_runs_78 (by decide) (fun hh18 => absurd hh18 (by decide)) (fun hh18 => ?_)
              refine lk_vret dX9_runs_81 rfl ?_
              rw [hQ]
              rw [hm, lk_rr, hfb] at hI
              simp only [hp] at hI
              rw [hI]
              exact ⟨rfl, rfl, (lk_up (lk_bar W q) 1 6 0 s1), rfl, (lk_fx_up (lk_fx_bar hWf (by decide) (by decide) (by decide)) (by decide)), lk_mvd_e hMv rfl, hD, hS, ⟨hWk.1, hWk.2⟩⟩
  exact LP21 ((lk_qb B nf k).1 + (lk_qa B nf k).1 + 1) 0 0 0 (lk_up (lk_up W0 1 22 0 0) 1 23 0 0) V T (by omega) (by omega) (fun _ _ _ => Or.inl rfl) hV hr0 (lk_fx_up (lk_fx_up (lk_fx_mo W0f (by decide)) (by decide)) (by decide)) (lk_mvd_e (lk_mvd_0 hB) (by funext x; exact W0f 1 0 x (by decide))) rfl rfl ⟨W0f 1 10 0 (by decide), funext fun x => W0f 1 11 x (by decide)⟩ ⟨W0a, W0b, W0c, W0d⟩ rfl (by omega)
