theorem lk_up_ne' {σ : lk_N} {o f i : Nat} {v : Int32} {b : Nat} (h : ¬ b = o) : lk_up σ o f i v b = σ b := by
  funext g j
  simp [lk_up, h]
theorem tX2_put (l : Launch) (X : lk_G) (d : Nat) (σ : lk_N) (τ : lk_T) (f : Nat) (hf : lk_ko f = 2) (t : Nat) (ht : lk_ko t = 6) (n : Nat) (hn : σ f 5 0 = nI n) (hn22 : n < 22) (h01 : ∀ i, i < 22 → σ f 3 i = 0 ∨ σ f 3 i = 1) (ht01 : σ t 4 0 = 0 ∨ σ t 4 0 = 1) : lk_Mt l X mX2_put (d + 2) [lk_vr f 0, lk_vr t 0] σ τ (fun rr σ1 τ1 => rr = none ∧ σ1 = lk_so σ f (lk_fput (σ f) n (lk_trow (σ t))) ∧ τ1 = τ) := by
  unfold lk_fput
  have e0 : lk_trow (σ t) 0 = σ t 3 0 := rfl
  rw [e0]
  by_cases h : lk_fpl (σ f) (σ t 3 0) n 0 < n ∧ σ f 0 (lk_fpl (σ f) (σ t 3 0) n 0) = σ t 3 0
  · rw [if_pos (show lk_fold (σ f) n (σ t 3 0) = true by simp [lk_fold, h.1, h.2])]
    exact tX2_put_old l X d σ τ f hf t ht n _ hn hn22 h01 ht01 rfl h.1 h.2
  · rw [if_neg (show ¬ lk_fold (σ f) n (σ t 3 0) = true by intro z; simp only [lk_fold, Bool.and_eq_true, decide_eq_true_eq] at z; exact h z)]
    exact tX2_put_new l X d σ τ f hf t ht n _ hn hn22 h01 ht01 rfl (by have := lk_fpl_le (σ f) (σ t 3 0) n 0; omega) h
theorem lk_rdb_c {P P' : lk_O} (h : P 0 = P' 0) (n a : Nat) (m : Int32) : lk_rdb P n a m = lk_rdb P' n a m := by
  unfold lk_rdb lk_fgo
  simp only [lk_rdn_c h, lk_cur_c h]
theorem lk_rdw_c {P P' : lk_O} (h : P 0 = P' 0) (n a : Nat) : lk_rdw P n a = lk_rdw P' n a := by
  unfold lk_rdw
  simp only [lk_rdn_c h, lk_cur_c h]
theorem lk_cur_lt {P : lk_O} {n a : Nat} (h : ¬ lk_cur P n a = -1) : a < n := by
  unfold lk_cur at h
  rcases Nat.lt_or_ge a n with q | q
  · exact q
  · rw [if_neg (by omega)] at h; exact absurd rfl h
theorem lk_rdn_ge (P : lk_O) (n : Nat) : ∀ (m a : Nat) (v : Int32), a ≤ (lk_rdn P n m a v).2
  | 0, a, v => Nat.le_refl _
  | m + 1, a, v => by
    unfold lk_rdn
    split
    · have := lk_rdn_ge P n m (a + 1) (v * 27 + (lk_cur P n a - 97 + 1)); omega
    · exact lk_rdn_ge P n m a _
theorem lk_rdn_z (P : lk_O) (n : Nat) : ∀ (m a : Nat), ¬ (lk_rdn P n m a 0).1 = 0 → a < (lk_rdn P n m a 0).2
  | 0, a, h => absurd rfl h
  | m + 1, a, h => by
    unfold lk_rdn at h ⊢
    split
    · have := lk_rdn_ge P n m (a + 1) (0 * 27 + (lk_cur P n a - 97 + 1)); omega
    · rename_i hc
      rw [if_neg hc] at h
      exact lk_rdn_z P n m a h
theorem lk_fgo_lt {P : lk_O} {n a : Nat} {m : Int32} (h : ¬ lk_fgo P n a m = false) : a < n := by
  refine lk_cur_lt (P := P) (fun e => h ?_)
  unfold lk_fgo
  rw [e]
  rfl
theorem lk_rdb_t {P : lk_O} {n a : Nat} {m : Int32} (h : (lk_rdb P n a m).1 = true) : a + 5 ≤ (lk_rdb P n a m).2 ∧ (lk_rdb P n a m).2 ≤ n := by
  unfold lk_rdb at h ⊢
  split at h
  · cases h
  · rename_i h1
    split at h
    · cases h
    · rename_i h2
      split at h
      · cases h
      · rename_i h3
        split at h
        · cases h
        · rename_i h4
          split at h
          · cases h
          · rename_i h5
            rw [if_neg h1, if_neg h2, if_neg h3, if_neg h4, if_neg h5]
            have := lk_rdn_z P n 4 a h1
            have := lk_fgo_lt h5
            exact ⟨by show a + 5 ≤ _ + 1 + 1 + 1 + 1; omega, by show _ + 1 + 1 + 1 + 1 ≤ n; omega⟩
theorem lk_rdb_le {P : lk_O} {n a : Nat} {m : Int32} (hn : n ≤ 60) (ha : a ≤ n) : (lk_rdb P n a m).2 ≤ 63 := by
  have := lk_rdn_le P hn 4 a 0 ha
  unfold lk_rdb
  split
  · show (lk_rdn P n 4 a 0).2 ≤ 63; omega
  · split
    · show (lk_rdn P n 4 a 0).2 ≤ 63; omega
    · split
      · show _ + 1 ≤ 63; omega
      · split
        · show _ + 1 + 1 ≤ 63; omega
        · split
          · show _ + 1 + 1 + 1 ≤ 63; omega
          · rename_i h5
            have := lk_fgo_lt h5
            show _ + 1 + 1 + 1 + 1 ≤ 63; omega
/-- boats are read, m of them more at most, from place a on, told of them so far: the answer, whether the fleet is taken, the fleet -/
def lk_rbs (P : lk_O) (n : Nat) (ml : Int32) : Nat → Nat → Nat → lk_O → Nat → Int32 × Bool × lk_O
  | 0, _, a, B, _ => (-100 - nI a, false, B)
  | m + 1, told, a, B, nb =>
    if (lk_rdb P n a ml).1 = true then
      if n ≤ (lk_rdb P n a ml).2 then (if lk_fputn B nb (lk_rdw P n a 0) ≤ 12 then (nI told, true, lk_fput B nb (lk_rdw P n a)) else (-3, false, lk_fput B nb (lk_rdw P n a)))
      else if lk_cur P n (lk_rdb P n a ml).2 = 44 then lk_rbs P n ml m (told + 1) ((lk_rdb P n a ml).2 + 1) (lk_fput B nb (lk_rdw P n a)) (lk_fputn B nb (lk_rdw P n a 0))
      else (-100 - nI (lk_rdb P n a ml).2, false, lk_fput B nb (lk_rdw P n a))
    else (-100 - nI (lk_rdb P n a ml).2, false, B)
theorem lk_fr_x {σ W S : lk_N} {A : lk_O} (hfr : lk_fr (lk_so σ 14 (W 14)) W) (h11 : S 11 = A) (h : ∀ o, lk_scr o = false → ¬ o = 14 → ¬ o = 11 → S o = W o) : lk_fr (lk_so (lk_so σ 11 A) 14 (S 14)) S := by
  intro o ho
  by_cases e : o = 14
  · subst e; rw [lk_so_eq]
  · rw [lk_so_ne e]
    by_cases e1 : o = 11
    · subst e1; rw [lk_so_eq]; exact h11
    · rw [lk_so_ne e1, h o ho e e1, hfr o ho, lk_so_ne e]
theorem lk_fr_14 {σ W : lk_N} (hfr : lk_fr (lk_so σ 14 (W 14)) W) {S : lk_N} (h : ∀ o, lk_scr o = false → ¬ o = 14 → S o = W o) : lk_fr (lk_so σ 14 (S 14)) S := by
  intro o ho
  by_cases e : o = 14
  · subst e; rw [lk_so_eq]
  · rw [lk_so_ne e, h o ho e, hfr o ho, lk_so_ne e]
set_option maxHeartbeats 1000000 in
set_option maxRecDepth 100000 in
theorem tX8_readBoats (l : Launch) (X : lk_G) (d : Nat) (σ : lk_N) (τ : lk_T) (nf : Nat) (hn : σ 11 5 0 = nI nf) (hn12 : nf ≤ 12) (n : Nat) (ht : σ 14 1 0 = nI n) (hn60 : n ≤ 60) (h01 : ∀ i, i < 22 → σ 11 3 i = 0 ∨ σ 11 3 i = 1) : lk_Mt l X mX8_readBoats (d + 4) [lk_vr 0 0] σ τ (fun rr σ1 τ1 => rr = some (lk_vi (lk_rbs (σ 14) n (σ 2 0 0) 60 1 0 (σ 11) nf).1) ∧ τ1 = τ ∧ ∃ W : lk_N, σ1 = W ∧ (lk_fr (lk_so (lk_so σ 11 (if (lk_rbs (σ 14) n (σ 2 0 0) 60 1 0 (σ 11) nf).2.1 = true then (lk_rbs (σ 14) n (σ 2 0 0) 60 1 0 (σ 11) nf).2.2 else σ 11)) 14 (W 14)) W ∧ W 14 0 = σ 14 0)) := by
  refine lk_met (L := [(0, lk_vr 0 0)]) (by decide +kernel) (Nat.le_of_ble_eq_true rfl) rfl ?_
  obtain ⟨Q, hQ⟩ : ∃ Q : lk_Q, Q = fun rr σ1 τ1 => rr = some (lk_vi (lk_rbs (σ 14) n (σ 2 0 0) 60 1 0 (σ 11) nf).1) ∧ τ1 = τ ∧ ∃ W : lk_N, σ1 = W ∧ (lk_fr (lk_so (lk_so σ 11 (if (lk_rbs (σ 14) n (σ 2 0 0) 60 1 0 (σ 11) nf).2.1 = true then (lk_rbs (σ 14) n (σ 2 0 0) 60 1 0 (σ 11) nf).2.2 else σ 11)) 14 (W 14)) W ∧ W 14 0 = σ 14 0) := ⟨_, rfl⟩
  rw [← hQ]
  obtain ⟨R, hR⟩ : ∃ R, R = lk_rbs (σ 14) n (σ 2 0 0) 60 1 0 (σ 11) nf := ⟨_, rfl⟩
  rw [← hR] at hQ
  refine lk_aload_n dX8_readBoats_0 rfl rfl ?_
  refine lk_getO (f := 9) (o' := 12) dX8_readBoats_1 rfl fX8_41 (by decide) (by decide) rfl ?_
  refine lk_aload_n dX8_readBoats_4 rfl rfl ?_
  refine lk_getO (f := 1) (o' := 11) dX8_readBoats_5 rfl fX8_21 (by decide) (by decide) rfl ?_
  refine lk_callV (o := 12) (as := [lk_vr 11 0]) (S := []) dX8_readBoats_8 rfl vX2_copyFrom rfl lX8_140 rfl rfl (Nat.le_of_ble_eq_true rfl) (tX2_copyFrom l X (d + 1) σ τ (f := 12) (o := 11) (hf := rfl) (ho := rfl) (hfo := by decide) (h01 := h01)) ?_
  refine lk_k3 ?_
  refine lk_cast (pc' := 11) (S' := []) rfl rfl rfl ?_
  refine lk_aload_n dX8_readBoats_11 rfl rfl ?_
  refine lk_getO (f := 2) (o' := 14) dX8_readBoats_12 rfl fX8_28 (by decide) (by decide) rfl ?_
  refine lk_iconst (v := 0) dX8_readBoats_15 (by decide) ?_
  refine lk_putI (f := 2) dX8_readBoats_16 rfl fX8_144 (by decide) (by decide) ?_
  refine lk_iconst (v := 1) dX8_readBoats_19 (by decide) ?_
  refine lk_istore_n (L' := [(0, lk_vr 0 0), (1, lk_vi 1)]) dX8_readBoats_20 rfl (by decide +kernel) rfl ?_
  have LP21 : ∀ (fu : Nat) (told a nb : Nat) (W : lk_N), 1 ≤ told → told ≤ 61 → 6 * (told - 1) ≤ a → nb ≤ 12 + (told - 1) → a ≤ n → W 14 2 0 = nI a → W 14 1 0 = nI n → W 14 0 = σ 14 0 → W 12 5 0 = nI nb → (∀ i, i < 22 → W 12 3 i = 0 ∨ W 12 3 i = 1) → lk_fr (lk_so σ 14 (W 14)) W → R = lk_rbs (σ 14) n (σ 2 0 0) (61 - told) told a (W 12) nb → 61 - told < fu → lk_W l X mX8_readBoats (d + 4) 21 [(0, lk_vr 0 0), (1, lk_vi (nI (told)))] [] W τ Q := by
    intro fu
    induction fu with
    | zero => intro told a nb W ht1 ht61 hta hnt han hWa hWn hW0 hnb h12 hfr hI hfu; exact absurd hfu (by omega)
    | succ fu ih =>
      intro told a nb W ht1 ht61 hta hnt han hWa hWn hW0 hnb h12 hfr hI hfu
      refine lk_iload_n dX8_readBoats_21 rfl rfl ?_
      have w2 : W 2 = σ 2 := by rw [hfr 2 rfl, lk_so_ne (by decide)]
      have w11 : W 11 = σ 11 := by rw [hfr 11 rfl, lk_so_ne (by decide)]
      have w14 := hW0
      have hrd := lk_rdb_c hW0 n a (σ 2 0 0)
      have hrw := lk_rdw_c hW0 n a
      have hr63 := lk_rdb_le (P := σ 14) (m := σ 2 0 0) hn60 han
      refine lk_bipush (v := 60) dX8_readBoats_22 (by decide) ?_
      refine lk_icmp_gtN (a := told) (b := 60) (tgt := 109) dX8_readBoats_24 (by decide) (by omega) (by omega) (fun hh1 => ?_) (fun hh1 => ?_)
      ·
        refine lk_bipush (v := (-100)) dX8_readBoats_109 (by decide) ?_
        refine lk_aload_n dX8_readBoats_111 rfl rfl ?_
        refine lk_getO (f := 2) (o' := 14) dX8_readBoats_112 rfl fX8_28 (by decide) (by decide) rfl ?_
        refine lk_getIv (v := (nI (a))) (f := 2) dX8_readBoats_115 rfl fX8_144 (by decide) (by decide) hWa ?_
        refine lk_isub dX8_readBoats_118 ?_
        refine lk_iret .int dX8_readBoats_119 rfl rfl ?_
        rw [hQ]
        rw [show 61 - told = 0 by omega, lk_rbs] at hI
        rw [hI]
        refine ⟨rfl, rfl, _, rfl, ?_, ?_⟩
        · refine lk_fr_x hfr ?_ (fun o ho h1 h2 => ?_)
          · simp [lk_so, lk_up, w11]
          · have h8 : ¬ o = 12 := by rintro rfl; cases ho
            simp [lk_so, lk_up, h1, h2, h8]
        · first | exact w14 | simp [lk_so, hT.1]
      ·
        refine lk_aload_n dX8_readBoats_27 rfl rfl ?_
        refine lk_getO (f := 2) (o' := 14) dX8_readBoats_28 rfl fX8_28 (by decide) (by decide) rfl ?_
        refine lk_aload_n dX8_readBoats_31 rfl rfl ?_
        refine lk_getO (f := 0) (o' := 2) dX8_readBoats_32 rfl fX8_14 (by decide) (by decide) rfl ?_
        refine lk_getIv (v := (σ 2 0 0)) (f := 0) dX8_readBoats_35 rfl fX8_72 (by decide) (by decide) (by rw [w2]) ?_
        refine lk_callV (o := 14) (as := [lk_vi (σ 2 0 0)]) (S := []) dX8_readBoats_38 rfl vX6_readBoat rfl lX8_147 rfl rfl (Nat.le_of_ble_eq_true rfl) (tX6_readBoat l X (d + 1) W τ (t := 14) (m := (σ 2 0 0)) (ht := rfl) (n := n) (a := a) (hn := hWn) (hn60 := hn60) (ha := hWa) (ha64 := by omega) (han := han)) ?_
        refine lk_k4 (F := fun T1 => lk_so W 14 T1) (fun T1 hT => ?_)
        rw [w14, hrd, hrw] at hT
        have hT1 := hT.1
        refine lk_cast (pc' := 41) (S' := [lk_vi (if (lk_rdb (W 14) n a (σ 2 0 0)).1 = true then 1 else 0)]) rfl rfl rfl ?_
        refine lk_eqtop (y := if (lk_rdb (σ 14) n a (σ 2 0 0)).1 = true then 1 else 0) (by rw [hrd]) ?_
        refine lk_if_neB (tgt := 55) dX8_readBoats_41 (by decide) (fun hh2 => ?_) (fun hh2 => ?_)
        ·
          refine lk_aload_n dX8_readBoats_55 rfl rfl ?_
          refine lk_getO (f := 9) (o' := 12) dX8_readBoats_56 rfl fX8_41 (by decide) (by decide) rfl ?_
          refine lk_aload_n dX8_readBoats_59 rfl rfl ?_
          refine lk_getO (f := 2) (o' := 14) dX8_readBoats_60 rfl fX8_28 (by decide) (by decide) rfl ?_
          refine lk_callV (o := 12) (as := [lk_vr 14 0]) (S := []) dX8_readBoats_63 rfl vX2_put rfl lX8_150 rfl rfl (Nat.le_of_ble_eq_true rfl) (tX2_put l X (d + 1) (lk_so W 14 T1) τ (f := 12) (t := 14) (hf := rfl) (ht := rfl) (n := nb) (hn := by rw [lk_so_ne (by decide)]; exact hnb) (hn22 := by have := lk_rdb_t (show (lk_rdb (σ 14) n a (σ 2 0 0)).1 = true by assumption); omega) (h01 := by rw [lk_so_ne (by decide)]; exact h12) (ht01 := by rw [lk_so_eq]; exact (hT.2.2.2 (by assumption)).1)) ?_
          refine lk_k3 ?_
          refine lk_sg (σ' := (lk_so (lk_so W 14 T1) 12 (lk_fput (W 12) nb (lk_rdw (σ 14) n a)))) (by rw [lk_so_eq, lk_so_ne (by decide), (hT.2.2.2 (by assumption)).2]) ?_
          refine lk_cast (pc' := 66) (S' := []) rfl rfl rfl ?_
          have hbd := lk_rdb_t (show (lk_rdb (σ 14) n a (σ 2 0 0)).1 = true by assumption)
          have h5 : lk_fput (W 12) nb (lk_rdw (σ 14) n a) 5 0 = nI (lk_fputn (W 12) nb ((lk_rdw (σ 14) n a) 0)) := lk_fput_5 _ _ hnb
          have h3 := lk_fput_3 (n := nb) (W 12) (lk_rdw (σ 14) n a) (by omega) h12 (by rw [← (hT.2.2.2 (by assumption)).2]; exact (hT.2.2.2 (by assumption)).1)
          have hnn := lk_fputn_le (W 12) nb ((lk_rdw (σ 14) n a) 0)
          have st : (lk_so (lk_so W 14 T1) 12 (lk_fput (W 12) nb (lk_rdw (σ 14) n a))) 14 = T1 := by simp [lk_so]
          have s12 : (lk_so (lk_so W 14 T1) 12 (lk_fput (W 12) nb (lk_rdw (σ 14) n a))) 12 = lk_fput (W 12) nb (lk_rdw (σ 14) n a) := by simp [lk_so]
          refine lk_aload_n dX8_readBoats_66 rfl rfl ?_
          refine lk_getO (f := 2) (o' := 14) dX8_readBoats_67 rfl fX8_28 (by decide) (by decide) rfl ?_
          refine lk_callV (o := 14) (as := []) (S := []) dX8_readBoats_70 rfl vX6_isAtEnd rfl lX8_154 rfl rfl (Nat.le_of_ble_eq_true rfl) (tX6_isAtEnd l X (d + 3) (lk_so (lk_so W 14 T1) 12 (lk_fput (W 12) nb (lk_rdw (σ 14) n a))) τ (t := 14) (ht := rfl) (n := n) (a := (lk_rdb (σ 14) n a (σ 2 0 0)).2) (hn := by rw [st, hT.2.1]; exact hWn) (hn60 := hn60) (ha := by rw [st]; exact hT.2.2.1) (ha64 := by omega)) ?_
          refine lk_k3 ?_
          refine lk_cast (pc' := 73) (S' := [lk_vi (if n ≤ (lk_rdb (σ 14) n a (σ 2 0 0)).2 then 1 else 0)]) rfl rfl rfl ?_
          refine lk_if_eqB (tgt := 82) dX8_readBoats_73 (by decide) (fun hh3 => ?_) (fun hh3 => ?_)
          ·
            refine lk_aload_n dX8_readBoats_82 rfl rfl ?_
            refine lk_getO (f := 2) (o' := 14) dX8_readBoats_83 rfl fX8_28 (by decide) (by decide) rfl ?_
            by_cases h86 : lk_cur (σ 14) n (lk_rdb (σ 14) n a (σ 2 0 0)).2 = 44
            ·
              refine lk_callV (o := 14) (as := []) (S := []) dX8_readBoats_86 rfl vX6_readComma rfl lX8_161 rfl rfl (Nat.le_of_ble_eq_true rfl) (tX6_readComma_ok l X (d + 2) (lk_so (lk_so W 14 T1) 12 (lk_fput (W 12) nb (lk_rdw (σ 14) n a))) τ (t := 14) (ht := rfl) (n := n) (a := (lk_rdb (σ 14) n a (σ 2 0 0)).2) (hn := by rw [st, hT.2.1]; exact hWn) (hn60 := hn60) (ha := by rw [st]; exact hT.2.2.1) (ha64 := by omega) (h := by rw [lk_cur_c (P' := σ 14) (by rw [st, hT1])]; exact h86)) ?_
              refine lk_k3 ?_
              refine lk_cast (pc' := 89) (S' := [lk_vi 1]) rfl rfl rfl ?_
              refine lk_if_ne (tgt := 103) dX8_readBoats_89 (by decide) (fun hh4 => ?_) (fun hh4 => absurd hh4 (by decide))
              refine lk_iincN (a := told) (m := 1) (L' := [(0, lk_vr 0 0), (1, lk_vi (nI (told + 1)))]) dX8_readBoats_103 rfl rfl (by decide +kernel) rfl ?_
              refine lk_goto (tgt := 21) dX8_readBoats_106 (by decide) ?_
              rw [show 61 - told = (61 - (told + 1)) + 1 by omega, lk_rbs] at hI
              rw [if_pos (by assumption), if_neg (by assumption), if_pos h86] at hI
              refine ih (told + 1) ((lk_rdb (σ 14) n a (σ 2 0 0)).2 + 1) (lk_fputn (W 12) nb ((lk_rdw (σ 14) n a) 0)) _ (by omega) (by omega) (by omega) (by omega) (by have := lk_cur_lt (P := σ 14) (n := n) (a := (lk_rdb (σ 14) n a (σ 2 0 0)).2) (by rw [h86]; decide); omega) (by simp [lk_up]) (by simp [lk_up, lk_so, hT.2.1, hWn]) (by funext i; simp [lk_up, lk_so, hT.1, w14]) (by simp [lk_up, lk_so, h5]) (by simp [lk_up, lk_so]; exact h3) ?_ ?_ (by omega)
              · refine lk_fr_14 hfr (fun o ho h1 => ?_)
                have h8 : ¬ o = 12 := by rintro rfl; cases ho
                funext i j
                simp [lk_so, lk_up, h1, h8]
              · rw [hI, lk_up_ne' (by decide), lk_so_eq]
            ·
              refine lk_callV (o := 14) (as := []) (S := []) dX8_readBoats_86 rfl vX6_readComma rfl lX8_161 rfl rfl (Nat.le_of_ble_eq_true rfl) (tX6_readComma_no l X (d + 2) (lk_so (lk_so W 14 T1) 12 (lk_fput (W 12) nb (lk_rdw (σ 14) n a))) τ (t := 14) (ht := rfl) (n := n) (a := (lk_rdb (σ 14) n a (σ 2 0 0)).2) (hn := by rw [st, hT.2.1]; exact hWn) (hn60 := hn60) (ha := by rw [st]; exact hT.2.2.1) (ha64 := by omega) (h := by rw [lk_cur_c (P' := σ 14) (by rw [st, hT1])]; exact h86)) ?_
              refine lk_k3 ?_
              refine lk_cast (pc' := 89) (S' := [lk_vi 0]) rfl rfl rfl ?_
              refine lk_if_ne (tgt := 103) dX8_readBoats_89 (by decide) (fun hh5 => absurd hh5 (by decide)) (fun hh5 => ?_)
              refine lk_bipush (v := (-100)) dX8_readBoats_92 (by decide) ?_
              refine lk_aload_n dX8_readBoats_94 rfl rfl ?_
              refine lk_getO (f := 2) (o' := 14) dX8_readBoats_95 rfl fX8_28 (by decide) (by decide) rfl ?_
              refine lk_getIv (v := (nI ((lk_rdb (σ 14) n a (σ 2 0 0)).2))) (f := 2) dX8_readBoats_98 rfl fX8_144 (by decide) (by decide) (by rw [st]; exact hT.2.2.1) ?_
              refine lk_isub dX8_readBoats_101 ?_
              refine lk_iret .int dX8_readBoats_102 rfl rfl ?_
              rw [hQ]
              rw [show 61 - told = (61 - (told + 1)) + 1 by omega, lk_rbs] at hI
              rw [if_pos (by assumption), if_neg (by assumption), if_neg h86] at hI
              rw [hI]
              refine ⟨rfl, rfl, _, rfl, ?_, ?_⟩
              · refine lk_fr_x hfr ?_ (fun o ho h1 h2 => ?_)
                · simp [lk_so, lk_up, w11]
                · have h8 : ¬ o = 12 := by rintro rfl; cases ho
                  simp [lk_so, lk_up, h1, h2, h8]
              · first | exact w14 | simp [lk_so, hT.1]
          ·
            refine lk_aload_n dX8_readBoats_76 rfl rfl ?_
            refine lk_iload_n dX8_readBoats_77 rfl rfl ?_
            by_cases h78 : (lk_fputn (W 12) nb ((lk_rdw (σ 14) n a) 0)) ≤ 12
            ·
              refine lk_callV (o := 0) (as := [lk_vi (nI (told))]) (S := []) dX8_readBoats_78 rfl vX8_takeFleetInThought rfl lX8_158 rfl rfl (Nat.le_of_ble_eq_true rfl) (tX8_take_ok l X d (lk_so (lk_so W 14 T1) 12 (lk_fput (W 12) nb (lk_rdw (σ 14) n a))) τ (t := (told)) (nf := (lk_fputn (W 12) nb ((lk_rdw (σ 14) n a) 0))) (hn := by rw [s12]; exact h5) (h := h78) (h01 := by rw [s12]; exact h3)) ?_
              refine lk_k3 ?_
              refine lk_cast (pc' := 81) (S' := [lk_vi (nI ((told)))]) rfl rfl rfl ?_
              refine lk_iret .int dX8_readBoats_81 rfl rfl ?_
              rw [hQ]
              rw [show 61 - told = (61 - (told + 1)) + 1 by omega, lk_rbs] at hI
              rw [if_pos (by assumption), if_pos (by assumption)] at hI
              first
                | (rw [if_pos h78] at hI; rw [hI])
                | (rw [if_neg h78] at hI; rw [hI])
              refine ⟨rfl, rfl, _, rfl, ?_, ?_⟩
              · refine lk_fr_x hfr ?_ (fun o ho h1 h2 => ?_)
                · simp [lk_so, lk_up, w11]
                · have h8 : ¬ o = 12 := by rintro rfl; cases ho
                  simp [lk_so, lk_up, h1, h2, h8]
              · first | exact w14 | simp [lk_so, hT.1]
            ·
              refine lk_callV (o := 0) (as := [lk_vi (nI (told))]) (S := []) dX8_readBoats_78 rfl vX8_takeFleetInThought rfl lX8_158 rfl rfl (Nat.le_of_ble_eq_true rfl) (tX8_take_full l X d (lk_so (lk_so W 14 T1) 12 (lk_fput (W 12) nb (lk_rdw (σ 14) n a))) τ (t := (told)) (nf := (lk_fputn (W 12) nb ((lk_rdw (σ 14) n a) 0))) (hn := by rw [s12]; exact h5) (hn22 := by omega) (h := by omega)) ?_
              refine lk_k3 ?_
              refine lk_cast (pc' := 81) (S' := [lk_vi (-3)]) rfl rfl rfl ?_
              refine lk_iret .int dX8_readBoats_81 rfl rfl ?_
              rw [hQ]
              rw [show 61 - told = (61 - (told + 1)) + 1 by omega, lk_rbs] at hI
              rw [if_pos (by assumption), if_pos (by assumption)] at hI
              first
                | (rw [if_pos h78] at hI; rw [hI])
                | (rw [if_neg h78] at hI; rw [hI])
              refine ⟨rfl, rfl, _, rfl, ?_, ?_⟩
              · refine lk_fr_x hfr ?_ (fun o ho h1 h2 => ?_)
                · simp [lk_so, lk_up, w11]
                · have h8 : ¬ o = 12 := by rintro rfl; cases ho
                  simp [lk_so, lk_up, h1, h2, h8]
              · first | exact w14 | simp [lk_so, hT.1]
        ·
          refine lk_bipush (v := (-100)) dX8_readBoats_44 (by decide) ?_
          refine lk_aload_n dX8_readBoats_46 rfl rfl ?_
          refine lk_getO (f := 2) (o' := 14) dX8_readBoats_47 rfl fX8_28 (by decide) (by decide) rfl ?_
          refine lk_getIv (v := (nI ((lk_rdb (σ 14) n a (σ 2 0 0)).2))) (f := 2) dX8_readBoats_50 rfl fX8_144 (by decide) (by decide) (by rw [lk_so_eq]; exact hT.2.2.1) ?_
          refine lk_isub dX8_readBoats_53 ?_
          refine lk_iret .int dX8_readBoats_54 rfl rfl ?_
          rw [hQ]
          rw [show 61 - told = (61 - (told + 1)) + 1 by omega, lk_rbs] at hI
          rw [if_neg (by assumption)] at hI
          rw [hI]
          refine ⟨rfl, rfl, _, rfl, ?_, ?_⟩
          · refine lk_fr_x hfr ?_ (fun o ho h1 h2 => ?_)
            · simp [lk_so, lk_up, w11]
            · have h8 : ¬ o = 12 := by rintro rfl; cases ho
              simp [lk_so, lk_up, h1, h2, h8]
          · first | exact w14 | simp [lk_so, hT.1]
  exact LP21 61 1 0 nf _ (by omega) (by omega) (by omega) (by omega) (by omega) (by simp [lk_up, lk_nI0]) (by simp [lk_up, lk_so, ht]) (by funext i; simp [lk_up, lk_so]) (by simp [lk_up, lk_so, hn]) (by simp [lk_up, lk_so]; exact h01) (fun o ho => by
    by_cases e : o = 14
    · subst e; rw [lk_so_eq]
    · have e8 : ¬ o = 12 := by rintro rfl; cases ho
      funext i j; simp [lk_up, lk_so, e, e8]) (by rw [hR, lk_up_ne' (by decide), lk_so_eq]) (by omega)

set_option maxHeartbeats 1000000 in
set_option maxRecDepth 100000 in
theorem tX8_boats (l : Launch) (X : lk_G) (d : Nat) (σ : lk_N) (τ : lk_T) (nf : Nat) (hn : σ 11 5 0 = nI nf) (hn12 : nf ≤ 12) (n : Nat) (ht : σ 14 1 0 = nI n) (hn60 : n ≤ 60) (h01 : ∀ i, i < 22 → σ 11 3 i = 0 ∨ σ 11 3 i = 1) : lk_Mt l X mX8_boats (d + 5) [lk_vr 0 0] σ τ (fun rr σ1 τ1 => rr = some (lk_vi (lk_rbs (σ 14) n (σ 2 0 0) 60 1 0 (σ 11) nf).1) ∧ τ1 = τ ∧ ∃ W : lk_N, σ1 = W ∧ (lk_fr (lk_so (lk_so σ 11 (if (lk_rbs (σ 14) n (σ 2 0 0) 60 1 0 (σ 11) nf).2.1 = true then (lk_rbs (σ 14) n (σ 2 0 0) 60 1 0 (σ 11) nf).2.2 else σ 11)) 14 (W 14)) W ∧ W 14 1 0 = 0)) := by
  refine lk_met (L := [(0, lk_vr 0 0)]) (by decide +kernel) (Nat.le_of_ble_eq_true rfl) rfl ?_
  obtain ⟨Q, hQ⟩ : ∃ Q : lk_Q, Q = fun rr σ1 τ1 => rr = some (lk_vi (lk_rbs (σ 14) n (σ 2 0 0) 60 1 0 (σ 11) nf).1) ∧ τ1 = τ ∧ ∃ W : lk_N, σ1 = W ∧ (lk_fr (lk_so (lk_so σ 11 (if (lk_rbs (σ 14) n (σ 2 0 0) 60 1 0 (σ 11) nf).2.1 = true then (lk_rbs (σ 14) n (σ 2 0 0) 60 1 0 (σ 11) nf).2.2 else σ 11)) 14 (W 14)) W ∧ W 14 1 0 = 0) := ⟨_, rfl⟩
  rw [← hQ]
  refine lk_aload_n dX8_boats_0 rfl rfl ?_
  refine lk_callV (o := 0) (as := []) (S := []) dX8_boats_1 rfl vX8_readBoats rfl lX8_136 rfl rfl (Nat.le_of_ble_eq_true rfl) (tX8_readBoats l X d σ τ  (nf := nf) (hn := hn) (hn12 := hn12) (n := n) (ht := ht) (hn60 := hn60) (h01 := h01)) ?_
  refine lk_k4 (F := fun W => W) (fun W hW => ?_)
  refine lk_cast (pc' := 4) (S' := [lk_vi ((lk_rbs (σ 14) n (σ 2 0 0) 60 1 0 (σ 11) nf).1)]) rfl rfl rfl ?_
  refine lk_istore_n (L' := [(0, lk_vr 0 0), (1, lk_vi ((lk_rbs (σ 14) n (σ 2 0 0) 60 1 0 (σ 11) nf).1))]) dX8_boats_4 rfl (by decide +kernel) rfl ?_
  refine lk_aload_n dX8_boats_5 rfl rfl ?_
  refine lk_getO (f := 2) (o' := 14) dX8_boats_6 rfl fX8_28 (by decide) (by decide) rfl ?_
  refine lk_iconst (v := 0) dX8_boats_9 (by decide) ?_
  refine lk_putI (f := 1) dX8_boats_10 rfl fX8_133 (by decide) (by decide) ?_
  refine lk_iload_n dX8_boats_13 rfl rfl ?_
  refine lk_iret .int dX8_boats_14 rfl rfl ?_
  rw [hQ]
  refine ⟨rfl, rfl, _, rfl, ?_, by simp [lk_up]⟩
  intro o ho
  by_cases e : o = 14
  · subst e; rw [lk_so_eq]
  · have := hW.1 o ho
    rw [lk_so_ne e] at this ⊢
    rw [← this]
    funext i j; simp [lk_up, e]
