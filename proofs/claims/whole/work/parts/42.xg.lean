theorem lk_yR_c (σ : lk_N) (c : Nat) (j : lk_J) : lk_yR σ c j c = j.2.1 := by
  obtain ⟨_ | ⟨k, q⟩, V, T⟩ := j
  · exact lk_s2_c σ c V T
  · show lk_so (lk_s2 σ c V T) (c + 2) _ c = V
    rw [lk_so_ne (by omega), lk_s2_c]
theorem lk_yR_ne {σ : lk_N} {c o : Nat} {j : lk_J} (h : ¬ o = c) (h1 : ¬ o = c + 1) (h2 : ¬ o = c + 2) : lk_yR σ c j o = σ o := by
  obtain ⟨_ | ⟨k, q⟩, V, T⟩ := j
  · exact lk_s2_ne h h1
  · show lk_so (lk_s2 σ c V T) (c + 2) _ o = σ o
    rw [lk_so_ne h2, lk_s2_ne h h1]
theorem lk_yR_fr {σ W : lk_N} (h : lk_fr σ W) (j : lk_J) : lk_fr σ (lk_yR W 8 j) := by
  intro o ho
  rw [lk_yR_ne (by intro e; subst e; cases ho) (by intro e; subst e; cases ho) (by intro e; subst e; cases ho)]
  exact h o ho
theorem lk_yR_2 {σ W : lk_N} (h : lk_fr σ W) (j : lk_J) : lk_fr (lk_yR σ 2 j) (lk_yR W 2 j) := by
  intro o ho
  obtain ⟨_ | ⟨k, q⟩, V, T⟩ := j
  · show lk_s2 W 2 V T o = lk_s2 σ 2 V T o
    by_cases e : o = 2
    · subst e; rw [lk_s2_c, lk_s2_c]
    · by_cases e3 : o = 3
      · subst e3; exact (lk_s2_t W 2 V T).trans (lk_s2_t σ 2 V T).symm
      · rw [lk_s2_ne e e3, lk_s2_ne e e3]; exact h o ho
  · show lk_so (lk_s2 W 2 V T) 4 (lk_kau (W 4) (nI k) q) o = lk_so (lk_s2 σ 2 V T) 4 (lk_kau (σ 4) (nI k) q) o
    by_cases e4 : o = 4
    · subst e4; rw [lk_so_eq, lk_so_eq, h 4 rfl]
    · rw [lk_so_ne e4, lk_so_ne e4]
      by_cases e : o = 2
      · subst e; rw [lk_s2_c, lk_s2_c]
      · by_cases e3 : o = 3
        · subst e3; exact (lk_s2_t W 2 V T).trans (lk_s2_t σ 2 V T).symm
        · rw [lk_s2_ne e e3, lk_s2_ne e e3]; exact h o ho
theorem lk_fr_11 {σ W : lk_N} (h : lk_fr σ W) (o : Nat) (B : lk_O) : lk_fr (lk_so σ o B) (lk_so W o B) := by
  intro a ha
  by_cases e : a = o
  · subst e; rw [lk_so_eq, lk_so_eq]
  · rw [lk_so_ne e, lk_so_ne e]; exact h a ha
/-- which rule: the first of those by which most are done, least being spent; rules 0 .. m - 1 looked at -/
def lk_kep (B V T : lk_O) (nf k : Nat) : Nat → Nat × Int32 × Int32
  | 0 => (0, -1, 0)
  | m + 1 => if (lk_kep B V T nf k m).2.1 < nI ((lk_run B V T nf k m).1.1 + (lk_run B V T nf k m).1.2.1) ∨ (nI ((lk_run B V T nf k m).1.1 + (lk_run B V T nf k m).1.2.1) = (lk_kep B V T nf k m).2.1 ∧ (lk_run B V T nf k m).1.2.2 < (lk_kep B V T nf k m).2.2) then (m, nI ((lk_run B V T nf k m).1.1 + (lk_run B V T nf k m).1.2.1), (lk_run B V T nf k m).1.2.2) else lk_kep B V T nf k m
theorem lk_rr_le0 {R Z : Nat → Int32} {qb qa : Nat → Nat} {nb na k ru : Nat} : ∀ (m i j : Nat) (sp : Int32) (V T : lk_O), i ≤ nb → j ≤ na → m = nb + na - i - j → (lk_rr R Z qb qa nb na k ru m i j sp V T).1.1 ≤ nb ∧ (lk_rr R Z qb qa nb na k ru m i j sp V T).1.2.1 ≤ na
  | 0, i, j, sp, V, T, h1, h2, _ => ⟨h1, h2⟩
  | m + 1, i, j, sp, V, T, h1, h2, hm => by
    unfold lk_rr
    cases hf : lk_frb R qb qa nb na i j (V 5 k) ru with
    | true =>
      have hi := lk_frb_t hf (by omega)
      cases lk_pas V k true (Z (qb i)) with
      | inl V' => exact lk_rr_le0 m (i + 1) j _ _ _ hi h2 (by omega)
      | inr q => exact ⟨h1, h2⟩
    | false =>
      have hj := lk_frb_f hf (by omega)
      cases lk_pas V k false (Z (qa j)) with
      | inl V' => exact lk_rr_le0 m i (j + 1) _ _ _ h1 hj (by omega)
      | inr q => exact ⟨h1, h2⟩
theorem lk_rr_le {B V T : lk_O} {nf k ru : Nat} {R : (Nat × Nat × Int32) × lk_J} (h : R = lk_run B V T nf k ru) : R.1.1 ≤ (lk_qb B nf k).1 ∧ R.1.2.1 ≤ (lk_qa B nf k).1 := by
  rw [h]
  exact lk_rr_le0 _ 0 0 0 V T (Nat.zero_le _) (Nat.zero_le _) (by omega)
set_option maxHeartbeats 1000000 in
set_option maxRecDepth 100000 in
theorem tX8_runInThought (l : Launch) (X : lk_G) (d : Nat) (σ : lk_N) (τ : lk_T) (n : Nat) (hV : lk_cok (σ 2) n) (k : Nat) (hk : k < n) (nf : Nat) (hn : σ 11 5 0 = nI nf) (hn12 : nf ≤ 12) (h01 : ∀ k, k < 6 → σ 2 5 k = 0 ∨ σ 2 5 k = 1) (hz : ∀ b, b < nf → 0 ≤ (σ 11 1 b).toInt ∧ (σ 11 1 b).toInt ≤ 9) (ru : Nat) (hru : ru ≤ 3) : lk_Mt l X mX8_runInThought (d + 5) [lk_vr 0 0, lk_vi (nI (k)), lk_vi (nI (ru))] σ τ (fun rr σ1 τ1 => rr = none ∧ τ1 = τ ∧ ∃ W : lk_N, σ1 = W ∧ (lk_fr σ W ∧ W 17 = lk_yy (lk_run (σ 11) (σ 2) (σ 3) nf k ru).1.1 (lk_run (σ 11) (σ 2) (σ 3) nf k ru).1.2.1 (lk_run (σ 11) (σ 2) (σ 3) nf k ru).1.2.2 ∧ W 8 5 k = (lk_run (σ 11) (σ 2) (σ 3) nf k ru).2.2.1 5 k)) := by
  refine lk_met (L := [(0, lk_vr 0 0), (1, lk_vi (nI (k))), (2, lk_vi (nI (ru)))]) (by decide +kernel) (Nat.le_of_ble_eq_true rfl) rfl ?_
  obtain ⟨Q, hQ⟩ : ∃ Q : lk_Q, Q = fun rr σ1 τ1 => rr = none ∧ τ1 = τ ∧ ∃ W : lk_N, σ1 = W ∧ (lk_fr σ W ∧ W 17 = lk_yy (lk_run (σ 11) (σ 2) (σ 3) nf k ru).1.1 (lk_run (σ 11) (σ 2) (σ 3) nf k ru).1.2.1 (lk_run (σ 11) (σ 2) (σ 3) nf k ru).1.2.2 ∧ W 8 5 k = (lk_run (σ 11) (σ 2) (σ 3) nf k ru).2.2.1 5 k) := ⟨_, rfl⟩
  rw [← hQ]
  have hk6 : k < 6 := Nat.lt_of_lt_of_le hk hV.2.2.1
  refine lk_aload_n dX8_runInThought_0 rfl rfl ?_
  refine lk_iload_n dX8_runInThought_1 rfl rfl ?_
  refine lk_callV (o := 0) (as := [lk_vi (nI (k))]) (S := []) dX8_runInThought_2 rfl vX8_lineUp rfl lX8_224 rfl rfl (Nat.le_of_ble_eq_true rfl) (tX8_lineUp l X d σ τ (k := (k)) (nf := nf) (hn := hn) (hn12 := hn12)) ?_
  refine lk_k4 (fun W hW => ?_)
  refine lk_cast (pc' := 5) (S' := []) rfl rfl rfl ?_
  refine lk_aload_n dX8_runInThought_5 rfl rfl ?_
  refine lk_getO (f := 8) (o' := 8) dX8_runInThought_6 rfl fX8_38 (by decide) (by decide) rfl ?_
  refine lk_aload_n dX8_runInThought_9 rfl rfl ?_
  refine lk_getO (f := 0) (o' := 2) dX8_runInThought_10 rfl fX8_14 (by decide) (by decide) rfl ?_
  refine lk_callV (o := 8) (as := [lk_vr 2 0]) (S := []) dX8_runInThought_13 rfl vX0_copyFrom rfl lX8_210 rfl rfl (Nat.le_of_ble_eq_true rfl) (tX0_copyFrom l X (d + 1) (lk_so (lk_so σ 15 W.1) 16 W.2) τ (c := 8) (o := 2) (hc := rfl) (ho := rfl) (hco := by decide) (h01 := by rw [lk_so_ne (by decide), lk_so_ne (by decide)]; exact h01)) ?_
  refine lk_k3 ?_
  refine lk_cast (pc' := 16) (S' := []) rfl rfl rfl ?_
  obtain ⟨s1, hs1⟩ : ∃ s : lk_N, s = (lk_so (lk_so (lk_so (lk_so σ 15 W.1) 16 W.2) 8 (lk_im ((lk_so (lk_so σ 15 W.1) 16 W.2) 2) ((lk_so (lk_so σ 15 W.1) 16 W.2) 8))) (8 + 1) ((lk_so (lk_so σ 15 W.1) 16 W.2) (2 + 1))) := ⟨_, rfl⟩
  rw [← hs1]
  have s8 : s1 8 = lk_im (σ 2) (σ 8) := by rw [hs1]; simp [lk_so]
  have s9 : s1 9 = σ 3 := by rw [hs1]; simp [lk_so]
  have s11 : s1 11 = σ 11 := by rw [hs1]; simp [lk_so]
  have s15 : s1 15 = W.1 := by rw [hs1]; simp [lk_so]
  have s16 : s1 16 = W.2 := by rw [hs1]; simp [lk_so]
  have sfr : lk_fr σ s1 := by rw [hs1]; exact lk_fr_so (lk_fr_so (lk_fr_so (lk_fr_so (lk_fr_rf σ) rfl _) rfl _) rfl _) rfl _
  refine lk_aload_n dX8_runInThought_16 rfl rfl ?_
  refine lk_getO (f := 12) (o' := 17) dX8_runInThought_17 rfl fX8_57 (by decide) (by decide) rfl ?_
  refine lk_aload_n dX8_runInThought_20 rfl rfl ?_
  refine lk_getO (f := 8) (o' := 8) dX8_runInThought_21 rfl fX8_38 (by decide) (by decide) rfl ?_
  refine lk_aload_n dX8_runInThought_24 rfl rfl ?_
  refine lk_getO (f := 1) (o' := 11) dX8_runInThought_25 rfl fX8_21 (by decide) (by decide) rfl ?_
  refine lk_aload_n dX8_runInThought_28 rfl rfl ?_
  refine lk_getO (f := 10) (o' := 15) dX8_runInThought_29 rfl fX8_47 (by decide) (by decide) rfl ?_
  refine lk_aload_n dX8_runInThought_32 rfl rfl ?_
  refine lk_getO (f := 11) (o' := 16) dX8_runInThought_33 rfl fX8_51 (by decide) (by decide) rfl ?_
  refine lk_iload_n dX8_runInThought_36 rfl rfl ?_
  refine lk_iload_n dX8_runInThought_37 rfl rfl ?_
  refine lk_callV (o := 17) (as := [lk_vr 8 0, lk_vr 11 0, lk_vr 15 0, lk_vr 16 0, lk_vi (nI (k)), lk_vi (nI (ru))]) (S := []) dX8_runInThought_38 rfl vX4_go rfl lX8_291 rfl rfl (Nat.le_of_ble_eq_true rfl) (tX4_go l X d s1 τ (y := 17) (c := 8) (f := 11) (g := 15) (h := 16) (k := (k)) (ru := (ru)) (hy := rfl) (hc := rfl) (hf := rfl) (n := nf) (hn := by rw [s11]; exact hn) (hn22 := by omega) (hg := rfl) (hh := rfl) (nb := (lk_qb (σ 11) nf k).1) (na := (lk_qa (σ 11) nf k).1) (qb := (lk_qb (σ 11) nf k).2) (qa := (lk_qa (σ 11) nf k).2) (hgb := by rw [s15]; exact hW.1.1) (hha := by rw [s16]; exact hW.2.1) (hnb := (Nat.le_trans (lk_gat_le (σ 11) (nI k) 1 nf) (by omega))) (hna := (Nat.le_trans (lk_gat_le (σ 11) (nI (k + 1)) 0 nf) (by omega))) (hqb := by rw [s15]; exact hW.1.2) (hqa := by rw [s16]; exact hW.2.2) (hqbn := fun i h => lk_gat_lt (σ 11) (nI k) 1 nf i h) (hqan := fun i h => lk_gat_lt (σ 11) (nI (k + 1)) 0 nf i h) (nl := n) (hV := by rw [s8]; exact lk_im_cok hV) (hk := hk) (hru := hru) (hz := by rw [s11]; exact hz)) ?_
  refine lk_k3 ?_
  refine lk_cast (pc' := 41) (S' := []) rfl rfl rfl ?_
  refine lk_vret dX8_runInThought_41 rfl ?_
  rw [hQ]
  refine ⟨rfl, rfl, _, rfl, lk_fr_so (lk_yR_fr sfr _) rfl _, ?_, ?_⟩
  · rw [lk_so_eq]
    unfold lk_goR
    rw [s11, s8, show s1 (8 + 1) = σ 3 from s9]
    rw [(lk_rr_c (R := σ 11 2) (Z := σ 11 1) (qb := (lk_qb (σ 11) nf k).2) (qa := (lk_qa (σ 11) nf k).2) (nb := (lk_qb (σ 11) nf k).1) (na := (lk_qa (σ 11) nf k).1) (ru := ru) hk6 ((lk_qb (σ 11) nf k).1 + (lk_qa (σ 11) nf k).1) 0 0 0 (lk_eqr_im (σ 2) (σ 8)) (T := σ 3) (U := σ 3) (fun _ _ => rfl)).1]
  · rw [lk_so_ne (by decide), lk_yR_c]
    unfold lk_goR
    rw [s11, s8, show s1 (8 + 1) = σ 3 from s9]
    exact (lk_rr_c (R := σ 11 2) (Z := σ 11 1) (qb := (lk_qb (σ 11) nf k).2) (qa := (lk_qa (σ 11) nf k).2) (nb := (lk_qb (σ 11) nf k).1) (na := (lk_qa (σ 11) nf k).1) (ru := ru) hk6 ((lk_qb (σ 11) nf k).1 + (lk_qa (σ 11) nf k).1) 0 0 0 (lk_eqr_im (σ 2) (σ 8)) (T := σ 3) (U := σ 3) (fun _ _ => rfl)).2.2.1.2.2.1 5 k (by decide) (by decide) hk6

set_option maxHeartbeats 1000000 in
set_option maxRecDepth 100000 in
theorem tX8_ruled_out (l : Launch) (X : lk_G) (d : Nat) (σ : lk_N) (τ : lk_T) (k : Int32) (hk : k < 0 ∨ σ 2 0 0 ≤ k) (r w : Int32) : lk_Mt l X mX8_ruled (d + 6) [lk_vr 0 0, lk_vi (k), lk_vi (r), lk_vi (w)] σ τ (fun rr σ1 τ1 => rr = some (lk_vi (-2000000)) ∧ σ1 = σ ∧ τ1 = τ) := by
  refine lk_met (L := [(0, lk_vr 0 0), (1, lk_vi (k)), (2, lk_vi (r)), (3, lk_vi (w))]) (by decide +kernel) (Nat.le_of_ble_eq_true rfl) rfl ?_
  obtain ⟨Q, hQ⟩ : ∃ Q : lk_Q, Q = fun rr σ1 τ1 => rr = some (lk_vi (-2000000)) ∧ σ1 = σ ∧ τ1 = τ := ⟨_, rfl⟩
  rw [← hQ]
  refine lk_aload_n dX8_ruled_0 rfl rfl ?_
  refine lk_getO (f := 0) (o' := 2) dX8_ruled_1 rfl fX8_14 (by decide) (by decide) rfl ?_
  refine lk_iload_n dX8_ruled_4 rfl rfl ?_
  refine lk_callV (o := 2) (as := [lk_vi (k)]) (S := []) dX8_ruled_5 rfl vX0_hasLock rfl lX8_79 rfl rfl (Nat.le_of_ble_eq_true rfl) (tX0_hasLock_out l X (d + 5) σ τ (c := 2) (k := (k)) (hc := rfl) (hk := hk)) ?_
  refine lk_k3 ?_
  refine lk_cast (pc' := 8) (S' := [lk_vi 0]) rfl rfl rfl ?_
  refine lk_if_eq (tgt := 27) dX8_ruled_8 (by decide) (fun hh1 => ?_) (fun hh1 => absurd hh1 (by decide))
  refine lk_ldc dX8_ruled_27 kX8_186 ?_
  refine lk_iret .int dX8_ruled_29 rfl rfl ?_
  rw [hQ]
  exact ⟨by first | rfl | (simp [*]; done) | (simp_all; done) | grind, by first | rfl | (simp [*]; done), rfl⟩

set_option maxHeartbeats 1000000 in
set_option maxRecDepth 100000 in
theorem tX8_ruled_bad (l : Launch) (X : lk_G) (d : Nat) (σ : lk_N) (τ : lk_T) (n : Nat) (hV : lk_cok (σ 2) n) (k : Nat) (hk : k < n) (r w : Int32) (h : ¬ ((0 ≤ r ∧ r < 4) ∧ 0 ≤ w ∧ w ≤ 2)) : lk_Mt l X mX8_ruled (d + 6) [lk_vr 0 0, lk_vi (nI (k)), lk_vi (r), lk_vi (w)] σ τ (fun rr σ1 τ1 => rr = some (lk_vi (-2000000)) ∧ σ1 = σ ∧ τ1 = τ) := by
  refine lk_met (L := [(0, lk_vr 0 0), (1, lk_vi (nI (k))), (2, lk_vi (r)), (3, lk_vi (w))]) (by decide +kernel) (Nat.le_of_ble_eq_true rfl) rfl ?_
  obtain ⟨Q, hQ⟩ : ∃ Q : lk_Q, Q = fun rr σ1 τ1 => rr = some (lk_vi (-2000000)) ∧ σ1 = σ ∧ τ1 = τ := ⟨_, rfl⟩
  rw [← hQ]
  refine lk_aload_n dX8_ruled_0 rfl rfl ?_
  refine lk_getO (f := 0) (o' := 2) dX8_ruled_1 rfl fX8_14 (by decide) (by decide) rfl ?_
  refine lk_iload_n dX8_ruled_4 rfl rfl ?_
  refine lk_callV (o := 2) (as := [lk_vi (nI (k))]) (S := []) dX8_ruled_5 rfl vX0_hasLock rfl lX8_79 rfl rfl (Nat.le_of_ble_eq_true rfl) (tX0_hasLock_in l X (d + 5) σ τ (c := 2) (k := (k)) (hc := rfl) (n := n) (hn := hV.1) (hk := hk) (hn6 := hV.2.2.1)) ?_
  refine lk_k3 ?_
  refine lk_cast (pc' := 8) (S' := [lk_vi 1]) rfl rfl rfl ?_
  refine lk_if_eq (tgt := 27) dX8_ruled_8 (by decide) (fun hh1 => absurd hh1 (by decide)) (fun hh1 => ?_)
  refine lk_iload_n dX8_ruled_11 rfl rfl ?_
  refine lk_callS (as := [lk_vi (r)]) (S := []) dX8_ruled_12 rfl vX8_isRule rfl lX8_276 (Nat.le_of_ble_eq_true rfl) (tX8_isRule l X (d + 5) σ τ (v := (r)) ) ?_
  refine lk_k3 ?_
  refine lk_cast (pc' := 15) (S' := [lk_vi (if 0 ≤ (r) ∧ (r) < 4 then 1 else 0)]) rfl rfl rfl ?_
  refine lk_if_eqB (tgt := 27) dX8_ruled_15 (by decide) (fun hh2 => ?_) (fun hh2 => ?_)
  ·
    refine lk_ldc dX8_ruled_27 kX8_186 ?_
    refine lk_iret .int dX8_ruled_29 rfl rfl ?_
    rw [hQ]
    exact ⟨by first | rfl | (simp [*]; done) | (simp_all; done) | grind, by first | rfl | (simp [*]; done), rfl⟩
  ·
    refine lk_iload_n dX8_ruled_18 rfl rfl ?_
    refine lk_if_lt (tgt := 27) dX8_ruled_19 (by decide) (fun hh3 => ?_) (fun hh3 => ?_)
    ·
      refine lk_ldc dX8_ruled_27 kX8_186 ?_
      refine lk_iret .int dX8_ruled_29 rfl rfl ?_
      rw [hQ]
      exact ⟨by first | rfl | (simp [*]; done) | (simp_all; done) | grind, by first | rfl | (simp [*]; done), rfl⟩
    ·
      refine lk_iload_n dX8_ruled_22 rfl rfl ?_
      refine lk_iconst (v := 2) dX8_ruled_23 (by decide) ?_
      refine lk_icmp_le (tgt := 30) dX8_ruled_24 (by decide) (fun hh4 => ?_) (fun hh4 => ?_)
      ·
        exact absurd ⟨by assumption, Int32.not_lt.mp (by assumption), by assumption⟩ h
      ·
        refine lk_ldc dX8_ruled_27 kX8_186 ?_
        refine lk_iret .int dX8_ruled_29 rfl rfl ?_
        rw [hQ]
        exact ⟨by first | rfl | (simp [*]; done) | (simp_all; done) | grind, by first | rfl | (simp [*]; done), rfl⟩

set_option maxHeartbeats 1000000 in
set_option maxRecDepth 100000 in
theorem tX8_ruled_0 (l : Launch) (X : lk_G) (d : Nat) (σ : lk_N) (τ : lk_T) (n : Nat) (hV : lk_cok (σ 2) n) (k : Nat) (hk : k < n) (nf : Nat) (hn : σ 11 5 0 = nI nf) (hn12 : nf ≤ 12) (h01 : ∀ k, k < 6 → σ 2 5 k = 0 ∨ σ 2 5 k = 1) (hz : ∀ b, b < nf → 0 ≤ (σ 11 1 b).toInt ∧ (σ 11 1 b).toInt ≤ 9) (ru : Nat) (hru : ru ≤ 3) : lk_Mt l X mX8_ruled (d + 6) [lk_vr 0 0, lk_vi (nI (k)), lk_vi (nI (ru)), lk_vi 0] σ τ (fun rr σ1 τ1 => rr = some (lk_vi ((lk_run (σ 11) (σ 2) (σ 3) nf k ru).1.2.2)) ∧ τ1 = τ ∧ ∃ W : lk_N, σ1 = W ∧ lk_fr σ W) := by
  refine lk_met (L := [(0, lk_vr 0 0), (1, lk_vi (nI (k))), (2, lk_vi (nI (ru))), (3, lk_vi 0)]) (by decide +kernel) (Nat.le_of_ble_eq_true rfl) rfl ?_
  obtain ⟨Q, hQ⟩ : ∃ Q : lk_Q, Q = fun rr σ1 τ1 => rr = some (lk_vi ((lk_run (σ 11) (σ 2) (σ 3) nf k ru).1.2.2)) ∧ τ1 = τ ∧ ∃ W : lk_N, σ1 = W ∧ lk_fr σ W := ⟨_, rfl⟩
  rw [← hQ]
  have hk6 : k < 6 := Nat.lt_of_lt_of_le hk hV.2.2.1
  refine lk_aload_n dX8_ruled_0 rfl rfl ?_
  refine lk_getO (f := 0) (o' := 2) dX8_ruled_1 rfl fX8_14 (by decide) (by decide) rfl ?_
  refine lk_iload_n dX8_ruled_4 rfl rfl ?_
  refine lk_callV (o := 2) (as := [lk_vi (nI (k))]) (S := []) dX8_ruled_5 rfl vX0_hasLock rfl lX8_79 rfl rfl (Nat.le_of_ble_eq_true rfl) (tX0_hasLock_in l X (d + 5) σ τ (c := 2) (k := (k)) (hc := rfl) (n := n) (hn := hV.1) (hk := hk) (hn6 := hV.2.2.1)) ?_
  refine lk_k3 ?_
  refine lk_cast (pc' := 8) (S' := [lk_vi 1]) rfl rfl rfl ?_
  refine lk_if_eq (tgt := 27) dX8_ruled_8 (by decide) (fun hh1 => absurd hh1 (by decide)) (fun hh1 => ?_)
  refine lk_iload_n dX8_ruled_11 rfl rfl ?_
  refine lk_callS (as := [lk_vi (nI (ru))]) (S := []) dX8_ruled_12 rfl vX8_isRule rfl lX8_276 (Nat.le_of_ble_eq_true rfl) (tX8_isRule l X (d + 5) σ τ (v := (nI (ru))) ) ?_
  refine lk_k3 ?_
  refine lk_cast (pc' := 15) (S' := [lk_vi (if 0 ≤ (nI (ru)) ∧ (nI (ru)) < 4 then 1 else 0)]) rfl rfl rfl ?_
  refine lk_if_eqB (tgt := 27) dX8_ruled_15 (by decide) (fun hh2 => absurd hh2 (by intro q; exact q ⟨nI_pos' (by omega), nI_lt (b := 4) (by omega) (by decide)⟩)) (fun hh2 => ?_)
  refine lk_iload_n dX8_ruled_18 rfl rfl ?_
  refine lk_if_lt (tgt := 27) dX8_ruled_19 (by decide) (fun hh3 => absurd hh3 (by decide)) (fun hh3 => ?_)
  refine lk_iload_n dX8_ruled_22 rfl rfl ?_
  refine lk_iconst (v := 2) dX8_ruled_23 (by decide) ?_
  refine lk_icmp_leN (a := 0) (b := 2) (tgt := 30) dX8_ruled_24 (by decide) (by omega) (by omega) (fun hh4 => ?_) (fun hh4 => absurd hh4 (by decide))
  refine lk_aload_n dX8_ruled_30 rfl rfl ?_
  refine lk_iload_n dX8_ruled_31 rfl rfl ?_
  refine lk_iload_n dX8_ruled_32 rfl rfl ?_
  refine lk_callV (o := 0) (as := [lk_vi (nI (k)), lk_vi (nI (ru))]) (S := []) dX8_ruled_33 rfl vX8_runInThought rfl lX8_279 rfl rfl (Nat.le_of_ble_eq_true rfl) (tX8_runInThought l X d σ τ (k := (k)) (ru := (ru)) (n := n) (hV := hV) (hk := hk) (nf := nf) (hn := hn) (hn12 := hn12) (h01 := h01) (hz := hz) (hru := hru)) ?_
  refine lk_k4 (F := fun W => W) (fun W hW => ?_)
  refine lk_cast (pc' := 36) (S' := []) rfl rfl rfl ?_
  refine lk_iload_n dX8_ruled_36 rfl rfl ?_
  refine lk_lookup (off := 27) (tgt := 64) dX8_ruled_37 rfl (by rfl) (by decide) ?_
  refine lk_aload_n dX8_ruled_64 rfl rfl ?_
  refine lk_getO (f := 12) (o' := 17) dX8_ruled_65 rfl fX8_57 (by decide) (by decide) rfl ?_
  refine lk_getIv (v := ((lk_run (σ 11) (σ 2) (σ 3) nf k ru).1.2.2)) (f := 2) dX8_ruled_68 rfl fX8_282 (by decide) (by decide) (by rw [hW.2.1]; rfl) ?_
  refine lk_iret .int dX8_ruled_71 rfl rfl ?_
  rw [hQ]
  first | exact ⟨rfl, rfl, W, rfl, hW.1⟩ | (rw [if_pos (by assumption)]; exact ⟨rfl, rfl, W, rfl, hW.1⟩) | (rw [if_neg (by assumption)]; exact ⟨rfl, rfl, W, rfl, hW.1⟩)

set_option maxHeartbeats 1000000 in
set_option maxRecDepth 100000 in
theorem tX8_ruled_1 (l : Launch) (X : lk_G) (d : Nat) (σ : lk_N) (τ : lk_T) (n : Nat) (hV : lk_cok (σ 2) n) (k : Nat) (hk : k < n) (nf : Nat) (hn : σ 11 5 0 = nI nf) (hn12 : nf ≤ 12) (h01 : ∀ k, k < 6 → σ 2 5 k = 0 ∨ σ 2 5 k = 1) (hz : ∀ b, b < nf → 0 ≤ (σ 11 1 b).toInt ∧ (σ 11 1 b).toInt ≤ 9) (ru : Nat) (hru : ru ≤ 3) : lk_Mt l X mX8_ruled (d + 6) [lk_vr 0 0, lk_vi (nI (k)), lk_vi (nI (ru)), lk_vi 1] σ τ (fun rr σ1 τ1 => rr = some (lk_vi (nI ((lk_run (σ 11) (σ 2) (σ 3) nf k ru).1.1 + (lk_run (σ 11) (σ 2) (σ 3) nf k ru).1.2.1))) ∧ τ1 = τ ∧ ∃ W : lk_N, σ1 = W ∧ lk_fr σ W) := by
  refine lk_met (L := [(0, lk_vr 0 0), (1, lk_vi (nI (k))), (2, lk_vi (nI (ru))), (3, lk_vi 1)]) (by decide +kernel) (Nat.le_of_ble_eq_true rfl) rfl ?_
  obtain ⟨Q, hQ⟩ : ∃ Q : lk_Q, Q = fun rr σ1 τ1 => rr = some (lk_vi (nI ((lk_run (σ 11) (σ 2) (σ 3) nf k ru).1.1 + (lk_run (σ 11) (σ 2) (σ 3) nf k ru).1.2.1))) ∧ τ1 = τ ∧ ∃ W : lk_N, σ1 = W ∧ lk_fr σ W := ⟨_, rfl⟩
  rw [← hQ]
  have hk6 : k < 6 := Nat.lt_of_lt_of_le hk hV.2.2.1
  refine lk_aload_n dX8_ruled_0 rfl rfl ?_
  refine lk_getO (f := 0) (o' := 2) dX8_ruled_1 rfl fX8_14 (by decide) (by decide) rfl ?_
  refine lk_iload_n dX8_ruled_4 rfl rfl ?_
  refine lk_callV (o := 2) (as := [lk_vi (nI (k))]) (S := []) dX8_ruled_5 rfl vX0_hasLock rfl lX8_79 rfl rfl (Nat.le_of_ble_eq_true rfl) (tX0_hasLock_in l X (d + 5) σ τ (c := 2) (k := (k)) (hc := rfl) (n := n) (hn := hV.1) (hk := hk) (hn6 := hV.2.2.1)) ?_
  refine lk_k3 ?_
  refine lk_cast (pc' := 8) (S' := [lk_vi 1]) rfl rfl rfl ?_
  refine lk_if_eq (tgt := 27) dX8_ruled_8 (by decide) (fun hh1 => absurd hh1 (by decide)) (fun hh1 => ?_)
  refine lk_iload_n dX8_ruled_11 rfl rfl ?_
  refine lk_callS (as := [lk_vi (nI (ru))]) (S := []) dX8_ruled_12 rfl vX8_isRule rfl lX8_276 (Nat.le_of_ble_eq_true rfl) (tX8_isRule l X (d + 5) σ τ (v := (nI (ru))) ) ?_
  refine lk_k3 ?_
  refine lk_cast (pc' := 15) (S' := [lk_vi (if 0 ≤ (nI (ru)) ∧ (nI (ru)) < 4 then 1 else 0)]) rfl rfl rfl ?_
  refine lk_if_eqB (tgt := 27) dX8_ruled_15 (by decide) (fun hh2 => absurd hh2 (by intro q; exact q ⟨nI_pos' (by omega), nI_lt (b := 4) (by omega) (by decide)⟩)) (fun hh2 => ?_)
  refine lk_iload_n dX8_ruled_18 rfl rfl ?_
  refine lk_if_lt (tgt := 27) dX8_ruled_19 (by decide) (fun hh3 => absurd hh3 (by decide)) (fun hh3 => ?_)
  refine lk_iload_n dX8_ruled_22 rfl rfl ?_
  refine lk_iconst (v := 2) dX8_ruled_23 (by decide) ?_
  refine lk_icmp_leN (a := 1) (b := 2) (tgt := 30) dX8_ruled_24 (by decide) (by omega) (by omega) (fun hh4 => ?_) (fun hh4 => absurd hh4 (by decide))
  refine lk_aload_n dX8_ruled_30 rfl rfl ?_
  refine lk_iload_n dX8_ruled_31 rfl rfl ?_
  refine lk_iload_n dX8_ruled_32 rfl rfl ?_
  refine lk_callV (o := 0) (as := [lk_vi (nI (k)), lk_vi (nI (ru))]) (S := []) dX8_ruled_33 rfl vX8_runInThought rfl lX8_279 rfl rfl (Nat.le_of_ble_eq_true rfl) (tX8_runInThought l X d σ τ (k := (k)) (ru := (ru)) (n := n) (hV := hV) (hk := hk) (nf := nf) (hn := hn) (hn12 := hn12) (h01 := h01) (hz := hz) (hru := hru)) ?_
  refine lk_k4 (F := fun W => W) (fun W hW => ?_)
  refine lk_cast (pc' := 36) (S' := []) rfl rfl rfl ?_
  refine lk_iload_n dX8_ruled_36 rfl rfl ?_
  refine lk_lookup (off := 35) (tgt := 72) dX8_ruled_37 rfl (by rfl) (by decide) ?_
  refine lk_aload_n dX8_ruled_72 rfl rfl ?_
  refine lk_getO (f := 12) (o' := 17) dX8_ruled_73 rfl fX8_57 (by decide) (by decide) rfl ?_
  refine lk_callV (o := 17) (as := []) (S := []) dX8_ruled_76 rfl vX4_done rfl lX8_285 rfl rfl (Nat.le_of_ble_eq_true rfl) (tX4_done l X (d + 5) W τ (y := 17) (hy := rfl) (hi := by rw [hW.2.1]; rfl) (hj := by rw [hW.2.1]; rfl)) ?_
  refine lk_k3 ?_
  refine lk_cast (pc' := 79) (S' := [lk_vi (nI ((lk_run (σ 11) (σ 2) (σ 3) nf k ru).1.1 + (lk_run (σ 11) (σ 2) (σ 3) nf k ru).1.2.1))]) rfl rfl rfl ?_
  refine lk_iret .int dX8_ruled_79 rfl rfl ?_
  rw [hQ]
  first | exact ⟨rfl, rfl, W, rfl, hW.1⟩ | (rw [if_pos (by assumption)]; exact ⟨rfl, rfl, W, rfl, hW.1⟩) | (rw [if_neg (by assumption)]; exact ⟨rfl, rfl, W, rfl, hW.1⟩)

set_option maxHeartbeats 1000000 in
set_option maxRecDepth 100000 in
theorem tX8_ruled_2 (l : Launch) (X : lk_G) (d : Nat) (σ : lk_N) (τ : lk_T) (n : Nat) (hV : lk_cok (σ 2) n) (k : Nat) (hk : k < n) (nf : Nat) (hn : σ 11 5 0 = nI nf) (hn12 : nf ≤ 12) (h01 : ∀ k, k < 6 → σ 2 5 k = 0 ∨ σ 2 5 k = 1) (hz : ∀ b, b < nf → 0 ≤ (σ 11 1 b).toInt ∧ (σ 11 1 b).toInt ≤ 9) (ru : Nat) (hru : ru ≤ 3) : lk_Mt l X mX8_ruled (d + 6) [lk_vr 0 0, lk_vi (nI (k)), lk_vi (nI (ru)), lk_vi 2] σ τ (fun rr σ1 τ1 => rr = some (lk_vi (if (lk_run (σ 11) (σ 2) (σ 3) nf k ru).2.2.1 5 k = 0 then 0 else 1)) ∧ τ1 = τ ∧ ∃ W : lk_N, σ1 = W ∧ lk_fr σ W) := by
  refine lk_met (L := [(0, lk_vr 0 0), (1, lk_vi (nI (k))), (2, lk_vi (nI (ru))), (3, lk_vi 2)]) (by decide +kernel) (Nat.le_of_ble_eq_true rfl) rfl ?_
  obtain ⟨Q, hQ⟩ : ∃ Q : lk_Q, Q = fun rr σ1 τ1 => rr = some (lk_vi (if (lk_run (σ 11) (σ 2) (σ 3) nf k ru).2.2.1 5 k = 0 then 0 else 1)) ∧ τ1 = τ ∧ ∃ W : lk_N, σ1 = W ∧ lk_fr σ W := ⟨_, rfl⟩
  rw [← hQ]
  have hk6 : k < 6 := Nat.lt_of_lt_of_le hk hV.2.2.1
  refine lk_aload_n dX8_ruled_0 rfl rfl ?_
  refine lk_getO (f := 0) (o' := 2) dX8_ruled_1 rfl fX8_14 (by decide) (by decide) rfl ?_
  refine lk_iload_n dX8_ruled_4 rfl rfl ?_
  refine lk_callV (o := 2) (as := [lk_vi (nI (k))]) (S := []) dX8_ruled_5 rfl vX0_hasLock rfl lX8_79 rfl rfl (Nat.le_of_ble_eq_true rfl) (tX0_hasLock_in l X (d + 5) σ τ (c := 2) (k := (k)) (hc := rfl) (n := n) (hn := hV.1) (hk := hk) (hn6 := hV.2.2.1)) ?_
  refine lk_k3 ?_
  refine lk_cast (pc' := 8) (S' := [lk_vi 1]) rfl rfl rfl ?_
  refine lk_if_eq (tgt := 27) dX8_ruled_8 (by decide) (fun hh1 => absurd hh1 (by decide)) (fun hh1 => ?_)
  refine lk_iload_n dX8_ruled_11 rfl rfl ?_
  refine lk_callS (as := [lk_vi (nI (ru))]) (S := []) dX8_ruled_12 rfl vX8_isRule rfl lX8_276 (Nat.le_of_ble_eq_true rfl) (tX8_isRule l X (d + 5) σ τ (v := (nI (ru))) ) ?_
  refine lk_k3 ?_
  refine lk_cast (pc' := 15) (S' := [lk_vi (if 0 ≤ (nI (ru)) ∧ (nI (ru)) < 4 then 1 else 0)]) rfl rfl rfl ?_
  refine lk_if_eqB (tgt := 27) dX8_ruled_15 (by decide) (fun hh2 => absurd hh2 (by intro q; exact q ⟨nI_pos' (by omega), nI_lt (b := 4) (by omega) (by decide)⟩)) (fun hh2 => ?_)
  refine lk_iload_n dX8_ruled_18 rfl rfl ?_
  refine lk_if_lt (tgt := 27) dX8_ruled_19 (by decide) (fun hh3 => absurd hh3 (by decide)) (fun hh3 => ?_)
  refine lk_iload_n dX8_ruled_22 rfl rfl ?_
  refine lk_iconst (v := 2) dX8_ruled_23 (by decide) ?_
  refine lk_icmp_leN (a := 2) (b := 2) (tgt := 30) dX8_ruled_24 (by decide) (by omega) (by omega) (fun hh4 => ?_) (fun hh4 => absurd hh4 (by decide))
  refine lk_aload_n dX8_ruled_30 rfl rfl ?_
  refine lk_iload_n dX8_ruled_31 rfl rfl ?_
  refine lk_iload_n dX8_ruled_32 rfl rfl ?_
  refine lk_callV (o := 0) (as := [lk_vi (nI (k)), lk_vi (nI (ru))]) (S := []) dX8_ruled_33 rfl vX8_runInThought rfl lX8_279 rfl rfl (Nat.le_of_ble_eq_true rfl) (tX8_runInThought l X d σ τ (k := (k)) (ru := (ru)) (n := n) (hV := hV) (hk := hk) (nf := nf) (hn := hn) (hn12 := hn12) (h01 := h01) (hz := hz) (hru := hru)) ?_
  refine lk_k4 (F := fun W => W) (fun W hW => ?_)
  refine lk_cast (pc' := 36) (S' := []) rfl rfl rfl ?_
  refine lk_iload_n dX8_ruled_36 rfl rfl ?_
  refine lk_lookup (off := 43) (tgt := 80) dX8_ruled_37 rfl (by rfl) (by decide) ?_
  refine lk_aload_n dX8_ruled_80 rfl rfl ?_
  refine lk_getO (f := 8) (o' := 8) dX8_ruled_81 rfl fX8_38 (by decide) (by decide) rfl ?_
  refine lk_getR (f := 5) dX8_ruled_84 rfl fX8_288 (by decide) (by decide) ?_
  refine lk_iload_n dX8_ruled_87 rfl rfl ?_
  refine lk_zaldN (f := 5) (i := k) dX8_ruled_88 rfl (by decide) rfl (by omega) (by decide) ?_
  refine lk_eqtop (y := ((lk_run (σ 11) (σ 2) (σ 3) nf k ru).2.2.1 5 k)) hW.2.2 ?_
  refine lk_if_eq (tgt := 96) dX8_ruled_89 (by decide) (fun hh5 => ?_) (fun hh5 => ?_)
  ·
    refine lk_iconst (v := 0) dX8_ruled_96 (by decide) ?_
    refine lk_iret .int dX8_ruled_97 rfl rfl ?_
    rw [hQ]
    first | exact ⟨rfl, rfl, W, rfl, hW.1⟩ | (rw [if_pos (by assumption)]; exact ⟨rfl, rfl, W, rfl, hW.1⟩) | (rw [if_neg (by assumption)]; exact ⟨rfl, rfl, W, rfl, hW.1⟩)
  ·
    refine lk_iconst (v := 1) dX8_ruled_92 (by decide) ?_
    refine lk_goto (tgt := 97) dX8_ruled_93 (by decide) ?_
    refine lk_iret .int dX8_ruled_97 rfl rfl ?_
    rw [hQ]
    first | exact ⟨rfl, rfl, W, rfl, hW.1⟩ | (rw [if_pos (by assumption)]; exact ⟨rfl, rfl, W, rfl, hW.1⟩) | (rw [if_neg (by assumption)]; exact ⟨rfl, rfl, W, rfl, hW.1⟩)

set_option maxHeartbeats 1000000 in
set_option maxRecDepth 100000 in
theorem tX8_run_out (l : Launch) (X : lk_G) (d : Nat) (σ : lk_N) (τ : lk_T) (k : Int32) (hk : k < 0 ∨ σ 2 0 0 ≤ k) (r : Int32) : lk_Mt l X mX8_run (d + 5) [lk_vr 0 0, lk_vi (k), lk_vi (r)] σ τ (fun rr σ1 τ1 => rr = some (lk_vi (-1)) ∧ σ1 = σ ∧ τ1 = τ) := by
  refine lk_met (L := [(0, lk_vr 0 0), (1, lk_vi (k)), (2, lk_vi (r))]) (by decide +kernel) (Nat.le_of_ble_eq_true rfl) rfl ?_
  obtain ⟨Q, hQ⟩ : ∃ Q : lk_Q, Q = fun rr σ1 τ1 => rr = some (lk_vi (-1)) ∧ σ1 = σ ∧ τ1 = τ := ⟨_, rfl⟩
  rw [← hQ]
  refine lk_aload_n dX8_run_0 rfl rfl ?_
  refine lk_getO (f := 0) (o' := 2) dX8_run_1 rfl fX8_14 (by decide) (by decide) rfl ?_
  refine lk_iload_n dX8_run_4 rfl rfl ?_
  refine lk_callV (o := 2) (as := [lk_vi (k)]) (S := []) dX8_run_5 rfl vX0_hasLock rfl lX8_79 rfl rfl (Nat.le_of_ble_eq_true rfl) (tX0_hasLock_out l X (d + 4) σ τ (c := 2) (k := (k)) (hc := rfl) (hk := hk)) ?_
  refine lk_k3 ?_
  refine lk_cast (pc' := 8) (S' := [lk_vi 0]) rfl rfl rfl ?_
  refine lk_if_eq (tgt := 18) dX8_run_8 (by decide) (fun hh1 => ?_) (fun hh1 => absurd hh1 (by decide))
  refine lk_iconst (v := (-1)) dX8_run_18 (by decide) ?_
  refine lk_iret .int dX8_run_19 rfl rfl ?_
  rw [hQ]
  exact ⟨by first | rfl | (simp [*]; done) | (simp_all; done) | grind, by first | rfl | (simp [*]; done), rfl⟩

set_option maxHeartbeats 1000000 in
set_option maxRecDepth 100000 in
theorem tX8_run_bad (l : Launch) (X : lk_G) (d : Nat) (σ : lk_N) (τ : lk_T) (n : Nat) (hV : lk_cok (σ 2) n) (k : Nat) (hk : k < n) (r : Int32) (h : ¬ (0 ≤ r ∧ r < 4)) : lk_Mt l X mX8_run (d + 5) [lk_vr 0 0, lk_vi (nI (k)), lk_vi (r)] σ τ (fun rr σ1 τ1 => rr = some (lk_vi (-1)) ∧ σ1 = σ ∧ τ1 = τ) := by
  refine lk_met (L := [(0, lk_vr 0 0), (1, lk_vi (nI (k))), (2, lk_vi (r))]) (by decide +kernel) (Nat.le_of_ble_eq_true rfl) rfl ?_
  obtain ⟨Q, hQ⟩ : ∃ Q : lk_Q, Q = fun rr σ1 τ1 => rr = some (lk_vi (-1)) ∧ σ1 = σ ∧ τ1 = τ := ⟨_, rfl⟩
  rw [← hQ]
  refine lk_aload_n dX8_run_0 rfl rfl ?_
  refine lk_getO (f := 0) (o' := 2) dX8_run_1 rfl fX8_14 (by decide) (by decide) rfl ?_
  refine lk_iload_n dX8_run_4 rfl rfl ?_
  refine lk_callV (o := 2) (as := [lk_vi (nI (k))]) (S := []) dX8_run_5 rfl vX0_hasLock rfl lX8_79 rfl rfl (Nat.le_of_ble_eq_true rfl) (tX0_hasLock_in l X (d + 4) σ τ (c := 2) (k := (k)) (hc := rfl) (n := n) (hn := hV.1) (hk := hk) (hn6 := hV.2.2.1)) ?_
  refine lk_k3 ?_
  refine lk_cast (pc' := 8) (S' := [lk_vi 1]) rfl rfl rfl ?_
  refine lk_if_eq (tgt := 18) dX8_run_8 (by decide) (fun hh1 => absurd hh1 (by decide)) (fun hh1 => ?_)
  refine lk_iload_n dX8_run_11 rfl rfl ?_
  refine lk_callS (as := [lk_vi (r)]) (S := []) dX8_run_12 rfl vX8_isRule rfl lX8_276 (Nat.le_of_ble_eq_true rfl) (tX8_isRule l X (d + 4) σ τ (v := (r)) ) ?_
  refine lk_k3 ?_
  refine lk_cast (pc' := 15) (S' := [lk_vi (if 0 ≤ (r) ∧ (r) < 4 then 1 else 0)]) rfl rfl rfl ?_
  refine lk_if_neB (tgt := 20) dX8_run_15 (by decide) (fun hh2 => absurd hh2 h) (fun hh2 => ?_)
  refine lk_iconst (v := (-1)) dX8_run_18 (by decide) ?_
  refine lk_iret .int dX8_run_19 rfl rfl ?_
  rw [hQ]
  exact ⟨by first | rfl | (simp [*]; done) | (simp_all; done) | grind, by first | rfl | (simp [*]; done), rfl⟩

set_option maxHeartbeats 1000000 in
set_option maxRecDepth 100000 in
theorem tX8_run_ok (l : Launch) (X : lk_G) (d : Nat) (σ : lk_N) (τ : lk_T) (n : Nat) (hV : lk_cok (σ 2) n) (k : Nat) (hk : k < n) (nf : Nat) (hn : σ 11 5 0 = nI nf) (hn12 : nf ≤ 12) (h01 : ∀ k, k < 6 → σ 2 5 k = 0 ∨ σ 2 5 k = 1) (hz : ∀ b, b < nf → 0 ≤ (σ 11 1 b).toInt ∧ (σ 11 1 b).toInt ≤ 9) (ru : Nat) (hru : ru ≤ 3) : lk_Mt l X mX8_run (d + 5) [lk_vr 0 0, lk_vi (nI (k)), lk_vi (nI (ru))] σ τ (fun rr σ1 τ1 => rr = some (lk_vi (nI ((lk_run (σ 11) (σ 2) (σ 3) nf k ru).1.1 + (lk_run (σ 11) (σ 2) (σ 3) nf k ru).1.2.1))) ∧ τ1 = τ ∧ ∃ W : lk_N, σ1 = W ∧ lk_fr (lk_so (lk_yR σ 2 (lk_run (σ 11) (σ 2) (σ 3) nf k ru).2) 11 (lk_mvs (lk_mvs (σ 11) (lk_qb (σ 11) nf k).2 (lk_run (σ 11) (σ 2) (σ 3) nf k ru).1.1) (lk_qa (σ 11) nf k).2 (lk_run (σ 11) (σ 2) (σ 3) nf k ru).1.2.1)) W) := by
  refine lk_met (L := [(0, lk_vr 0 0), (1, lk_vi (nI (k))), (2, lk_vi (nI (ru)))]) (by decide +kernel) (Nat.le_of_ble_eq_true rfl) rfl ?_
  obtain ⟨Q, hQ⟩ : ∃ Q : lk_Q, Q = fun rr σ1 τ1 => rr = some (lk_vi (nI ((lk_run (σ 11) (σ 2) (σ 3) nf k ru).1.1 + (lk_run (σ 11) (σ 2) (σ 3) nf k ru).1.2.1))) ∧ τ1 = τ ∧ ∃ W : lk_N, σ1 = W ∧ lk_fr (lk_so (lk_yR σ 2 (lk_run (σ 11) (σ 2) (σ 3) nf k ru).2) 11 (lk_mvs (lk_mvs (σ 11) (lk_qb (σ 11) nf k).2 (lk_run (σ 11) (σ 2) (σ 3) nf k ru).1.1) (lk_qa (σ 11) nf k).2 (lk_run (σ 11) (σ 2) (σ 3) nf k ru).1.2.1)) W := ⟨_, rfl⟩
  rw [← hQ]
  obtain ⟨R, hR⟩ : ∃ R, R = (lk_run (σ 11) (σ 2) (σ 3) nf k ru) := ⟨_, rfl⟩
  rw [← hR] at hQ
  refine lk_aload_n dX8_run_0 rfl rfl ?_
  refine lk_getO (f := 0) (o' := 2) dX8_run_1 rfl fX8_14 (by decide) (by decide) rfl ?_
  refine lk_iload_n dX8_run_4 rfl rfl ?_
  refine lk_callV (o := 2) (as := [lk_vi (nI (k))]) (S := []) dX8_run_5 rfl vX0_hasLock rfl lX8_79 rfl rfl (Nat.le_of_ble_eq_true rfl) (tX0_hasLock_in l X (d + 4) σ τ (c := 2) (k := (k)) (hc := rfl) (n := n) (hn := hV.1) (hk := hk) (hn6 := hV.2.2.1)) ?_
  refine lk_k3 ?_
  refine lk_cast (pc' := 8) (S' := [lk_vi 1]) rfl rfl rfl ?_
  refine lk_if_eq (tgt := 18) dX8_run_8 (by decide) (fun hh1 => absurd hh1 (by decide)) (fun hh1 => ?_)
  refine lk_iload_n dX8_run_11 rfl rfl ?_
  refine lk_callS (as := [lk_vi (nI (ru))]) (S := []) dX8_run_12 rfl vX8_isRule rfl lX8_276 (Nat.le_of_ble_eq_true rfl) (tX8_isRule l X (d + 4) σ τ (v := (nI (ru))) ) ?_
  refine lk_k3 ?_
  refine lk_cast (pc' := 15) (S' := [lk_vi (if 0 ≤ (nI (ru)) ∧ (nI (ru)) < 4 then 1 else 0)]) rfl rfl rfl ?_
  refine lk_if_neB (tgt := 20) dX8_run_15 (by decide) (fun hh2 => ?_) (fun hh2 => absurd hh2 (by intro q; exact q ⟨nI_pos' (by omega), nI_lt (b := 4) (by omega) (by decide)⟩))
  refine lk_aload_n dX8_run_20 rfl rfl ?_
  refine lk_iload_n dX8_run_21 rfl rfl ?_
  refine lk_callV (o := 0) (as := [lk_vi (nI (k))]) (S := []) dX8_run_22 rfl vX8_lineUp rfl lX8_224 rfl rfl (Nat.le_of_ble_eq_true rfl) (tX8_lineUp l X d σ τ (k := (k)) (nf := nf) (hn := hn) (hn12 := hn12)) ?_
  refine lk_k4 (fun W hW => ?_)
  refine lk_cast (pc' := 25) (S' := []) rfl rfl rfl ?_
  obtain ⟨s1, hs1⟩ : ∃ s : lk_N, s = (lk_so (lk_so σ 15 W.1) 16 W.2) := ⟨_, rfl⟩
  rw [← hs1]
  have s2 : s1 2 = σ 2 := by rw [hs1]; simp [lk_so]
  have s3 : s1 3 = σ 3 := by rw [hs1]; simp [lk_so]
  have s11 : s1 11 = σ 11 := by rw [hs1]; simp [lk_so]
  have s15 : s1 15 = W.1 := by rw [hs1]; simp [lk_so]
  have s16 : s1 16 = W.2 := by rw [hs1]; simp [lk_so]
  have sfr : lk_fr σ s1 := by rw [hs1]; exact lk_fr_so (lk_fr_so (lk_fr_rf σ) rfl _) rfl _
  refine lk_aload_n dX8_run_25 rfl rfl ?_
  refine lk_getO (f := 12) (o' := 17) dX8_run_26 rfl fX8_57 (by decide) (by decide) rfl ?_
  refine lk_aload_n dX8_run_29 rfl rfl ?_
  refine lk_getO (f := 0) (o' := 2) dX8_run_30 rfl fX8_14 (by decide) (by decide) rfl ?_
  refine lk_aload_n dX8_run_33 rfl rfl ?_
  refine lk_getO (f := 1) (o' := 11) dX8_run_34 rfl fX8_21 (by decide) (by decide) rfl ?_
  refine lk_aload_n dX8_run_37 rfl rfl ?_
  refine lk_getO (f := 10) (o' := 15) dX8_run_38 rfl fX8_47 (by decide) (by decide) rfl ?_
  refine lk_aload_n dX8_run_41 rfl rfl ?_
  refine lk_getO (f := 11) (o' := 16) dX8_run_42 rfl fX8_51 (by decide) (by decide) rfl ?_
  refine lk_iload_n dX8_run_45 rfl rfl ?_
  refine lk_iload_n dX8_run_46 rfl rfl ?_
  refine lk_callV (o := 17) (as := [lk_vr 2 0, lk_vr 11 0, lk_vr 15 0, lk_vr 16 0, lk_vi (nI (k)), lk_vi (nI (ru))]) (S := []) dX8_run_47 rfl vX4_go rfl lX8_291 rfl rfl (Nat.le_of_ble_eq_true rfl) (tX4_go l X d s1 τ (y := 17) (c := 2) (f := 11) (g := 15) (h := 16) (k := (k)) (ru := (ru)) (hy := rfl) (hc := rfl) (hf := rfl) (n := nf) (hn := by rw [s11]; exact hn) (hn22 := by omega) (hg := rfl) (hh := rfl) (nb := (lk_qb (σ 11) nf k).1) (na := (lk_qa (σ 11) nf k).1) (qb := (lk_qb (σ 11) nf k).2) (qa := (lk_qa (σ 11) nf k).2) (hgb := by rw [s15]; exact hW.1.1) (hha := by rw [s16]; exact hW.2.1) (hnb := (Nat.le_trans (lk_gat_le (σ 11) (nI k) 1 nf) (by omega))) (hna := (Nat.le_trans (lk_gat_le (σ 11) (nI (k + 1)) 0 nf) (by omega))) (hqb := by rw [s15]; exact hW.1.2) (hqa := by rw [s16]; exact hW.2.2) (hqbn := fun i h => lk_gat_lt (σ 11) (nI k) 1 nf i h) (hqan := fun i h => lk_gat_lt (σ 11) (nI (k + 1)) 0 nf i h) (nl := n) (hV := by rw [s2]; exact hV) (hk := hk) (hru := hru) (hz := by rw [s11]; exact hz)) ?_
  refine lk_k3 ?_
  refine lk_cast (pc' := 50) (S' := []) rfl rfl rfl ?_
  obtain ⟨t1, ht1⟩ : ∃ s : lk_N, s = (lk_so (lk_yR s1 2 (lk_goR s1 2 11 (k) ru (lk_qb (σ 11) nf k).2 (lk_qa (σ 11) nf k).2 (lk_qb (σ 11) nf k).1 (lk_qa (σ 11) nf k).1).2) 17 (lk_yy (lk_goR s1 2 11 (k) ru (lk_qb (σ 11) nf k).2 (lk_qa (σ 11) nf k).2 (lk_qb (σ 11) nf k).1 (lk_qa (σ 11) nf k).1).1.1 (lk_goR s1 2 11 (k) ru (lk_qb (σ 11) nf k).2 (lk_qa (σ 11) nf k).2 (lk_qb (σ 11) nf k).1 (lk_qa (σ 11) nf k).1).1.2.1 (lk_goR s1 2 11 (k) ru (lk_qb (σ 11) nf k).2 (lk_qa (σ 11) nf k).2 (lk_qb (σ 11) nf k).1 (lk_qa (σ 11) nf k).1).1.2.2)) := ⟨_, rfl⟩
  rw [← ht1]
  have hg : lk_goR s1 2 11 k ru (lk_qb (σ 11) nf k).2 (lk_qa (σ 11) nf k).2 (lk_qb (σ 11) nf k).1 (lk_qa (σ 11) nf k).1 = R := by rw [hR]; unfold lk_goR; rw [s11, s2, show s1 (2 + 1) = σ 3 from s3]
  rw [hg] at ht1
  have t11 : t1 11 = σ 11 := by rw [ht1, lk_so_ne (by decide), lk_yR_ne (by decide) (by decide) (by decide), s11]
  have t15 : t1 15 = W.1 := by rw [ht1, lk_so_ne (by decide), lk_yR_ne (by decide) (by decide) (by decide), s15]
  have t16 : t1 16 = W.2 := by rw [ht1, lk_so_ne (by decide), lk_yR_ne (by decide) (by decide) (by decide), s16]
  have t17 : t1 17 = lk_yy R.1.1 R.1.2.1 R.1.2.2 := by rw [ht1, lk_so_eq]
  refine lk_aload_n dX8_run_50 rfl rfl ?_
  refine lk_aload_n dX8_run_51 rfl rfl ?_
  refine lk_getO (f := 10) (o' := 15) dX8_run_52 rfl fX8_47 (by decide) (by decide) rfl ?_
  refine lk_aload_n dX8_run_55 rfl rfl ?_
  refine lk_getO (f := 12) (o' := 17) dX8_run_56 rfl fX8_57 (by decide) (by decide) rfl ?_
  refine lk_getIv (v := (nI (R.1.1))) (f := 0) dX8_run_59 rfl fX8_295 (by decide) (by decide) (by rw [t17]; rfl) ?_
  refine lk_callV (o := 0) (as := [lk_vr 15 0, lk_vi (nI (R.1.1))]) (S := []) dX8_run_62 rfl vX8_moveOnFirst rfl lX8_298 rfl rfl (Nat.le_of_ble_eq_true rfl) (tX8_moveOnFirst l X (d + 2) t1 τ (g := 15) (m := (R.1.1)) (hg := rfl) (nf := nf) (hn := by rw [t11]; exact hn) (hn12 := hn12) (c := (lk_qb (σ 11) nf k).1) (hc := by rw [t15]; exact hW.1.1) (hc12 := (Nat.le_trans (lk_gat_le _ _ _ nf) hn12)) (hm := (lk_rr_le hR).1) (q := (lk_qb (σ 11) nf k).2) (hq := by rw [t15]; exact hW.1.2) (hqn := fun i h => lk_gat_lt _ _ _ nf i h)) ?_
  refine lk_k3 ?_
  refine lk_cast (pc' := 65) (S' := []) rfl rfl rfl ?_
  refine lk_aload_n dX8_run_65 rfl rfl ?_
  refine lk_aload_n dX8_run_66 rfl rfl ?_
  refine lk_getO (f := 11) (o' := 16) dX8_run_67 rfl fX8_51 (by decide) (by decide) rfl ?_
  refine lk_aload_n dX8_run_70 rfl rfl ?_
  refine lk_getO (f := 12) (o' := 17) dX8_run_71 rfl fX8_57 (by decide) (by decide) rfl ?_
  refine lk_getIv (v := (nI (R.1.2.1))) (f := 1) dX8_run_74 rfl fX8_302 (by decide) (by decide) (by rw [lk_so_ne (by decide), t17]; rfl) ?_
  refine lk_callV (o := 0) (as := [lk_vr 16 0, lk_vi (nI (R.1.2.1))]) (S := []) dX8_run_77 rfl vX8_moveOnFirst rfl lX8_298 rfl rfl (Nat.le_of_ble_eq_true rfl) (tX8_moveOnFirst l X (d + 2) (lk_so t1 11 (lk_mvs (t1 11) (lk_qb (σ 11) nf k).2 (R.1.1))) τ (g := 16) (m := (R.1.2.1)) (hg := rfl) (nf := nf) (hn := by rw [lk_so_eq, lk_mvs_3 _ _ _ 5 (by decide), t11]; exact hn) (hn12 := hn12) (c := (lk_qa (σ 11) nf k).1) (hc := by rw [lk_so_ne (by decide), t16]; exact hW.2.1) (hc12 := (Nat.le_trans (lk_gat_le _ _ _ nf) hn12)) (hm := (lk_rr_le hR).2) (q := (lk_qa (σ 11) nf k).2) (hq := by rw [lk_so_ne (by decide), t16]; exact hW.2.2) (hqn := fun i h => lk_gat_lt _ _ _ nf i h)) ?_
  refine lk_k3 ?_
  refine lk_cast (pc' := 80) (S' := []) rfl rfl rfl ?_
  refine lk_aload_n dX8_run_80 rfl rfl ?_
  refine lk_getO (f := 12) (o' := 17) dX8_run_81 rfl fX8_57 (by decide) (by decide) rfl ?_
  refine lk_callV (o := 17) (as := []) (S := []) dX8_run_84 rfl vX4_done rfl lX8_285 rfl rfl (Nat.le_of_ble_eq_true rfl) (tX4_done l X (d + 4) (lk_so (lk_so t1 11 (lk_mvs (t1 11) (lk_qb (σ 11) nf k).2 (R.1.1))) 11 (lk_mvs ((lk_so t1 11 (lk_mvs (t1 11) (lk_qb (σ 11) nf k).2 (R.1.1))) 11) (lk_qa (σ 11) nf k).2 (R.1.2.1))) τ (y := 17) (hy := rfl) (hi := by rw [lk_so_ne (by decide), lk_so_ne (by decide), t17]; rfl) (hj := by rw [lk_so_ne (by decide), lk_so_ne (by decide), t17]; rfl)) ?_
  refine lk_k3 ?_
  refine lk_cast (pc' := 87) (S' := [lk_vi (nI (R.1.1 + R.1.2.1))]) rfl rfl rfl ?_
  refine lk_iret .int dX8_run_87 rfl rfl ?_
  rw [hQ]
  refine ⟨rfl, rfl, _, rfl, ?_⟩
  rw [lk_so_eq, t11, lk_so_so]
  refine lk_fr_11 ?_ 11 _
  rw [ht1]
  exact lk_fr_so (lk_yR_2 sfr _) rfl _

set_option maxHeartbeats 1000000 in
set_option maxRecDepth 100000 in
theorem tX8_keeper_out (l : Launch) (X : lk_G) (d : Nat) (σ : lk_N) (τ : lk_T) (k : Int32) (hk : k < 0 ∨ σ 2 0 0 ≤ k) : lk_Mt l X mX8_keeper (d + 6) [lk_vr 0 0, lk_vi (k)] σ τ (fun rr σ1 τ1 => rr = some (lk_vi (-1)) ∧ σ1 = σ ∧ τ1 = τ) := by
  refine lk_met (L := [(0, lk_vr 0 0), (1, lk_vi (k))]) (by decide +kernel) (Nat.le_of_ble_eq_true rfl) rfl ?_
  obtain ⟨Q, hQ⟩ : ∃ Q : lk_Q, Q = fun rr σ1 τ1 => rr = some (lk_vi (-1)) ∧ σ1 = σ ∧ τ1 = τ := ⟨_, rfl⟩
  rw [← hQ]
  refine lk_aload_n dX8_keeper_0 rfl rfl ?_
  refine lk_getO (f := 0) (o' := 2) dX8_keeper_1 rfl fX8_14 (by decide) (by decide) rfl ?_
  refine lk_iload_n dX8_keeper_4 rfl rfl ?_
  refine lk_callV (o := 2) (as := [lk_vi (k)]) (S := []) dX8_keeper_5 rfl vX0_hasLock rfl lX8_79 rfl rfl (Nat.le_of_ble_eq_true rfl) (tX0_hasLock_out l X (d + 5) σ τ (c := 2) (k := (k)) (hc := rfl) (hk := hk)) ?_
  refine lk_k3 ?_
  refine lk_cast (pc' := 8) (S' := [lk_vi 0]) rfl rfl rfl ?_
  refine lk_if_ne (tgt := 13) dX8_keeper_8 (by decide) (fun hh1 => absurd hh1 (by decide)) (fun hh1 => ?_)
  refine lk_iconst (v := (-1)) dX8_keeper_11 (by decide) ?_
  refine lk_iret .int dX8_keeper_12 rfl rfl ?_
  rw [hQ]
  exact ⟨by first | rfl | (simp [*]; done) | (simp_all; done) | grind, by first | rfl | (simp [*]; done), rfl⟩

set_option maxHeartbeats 1000000 in
set_option maxRecDepth 100000 in
theorem tX8_keeper_ok (l : Launch) (X : lk_G) (d : Nat) (σ : lk_N) (τ : lk_T) (n : Nat) (hV : lk_cok (σ 2) n) (k : Nat) (hk : k < n) (nf : Nat) (hn : σ 11 5 0 = nI nf) (hn12 : nf ≤ 12) (h01 : ∀ k, k < 6 → σ 2 5 k = 0 ∨ σ 2 5 k = 1) (hz : ∀ b, b < nf → 0 ≤ (σ 11 1 b).toInt ∧ (σ 11 1 b).toInt ≤ 9) : lk_Mt l X mX8_keeper (d + 6) [lk_vr 0 0, lk_vi (nI (k))] σ τ (fun rr σ1 τ1 => rr = some (lk_vi (nI (lk_kep (σ 11) (σ 2) (σ 3) nf k 4).1)) ∧ τ1 = τ ∧ ∃ W : lk_N, σ1 = W ∧ lk_fr σ W) := by
  refine lk_met (L := [(0, lk_vr 0 0), (1, lk_vi (nI (k)))]) (by decide +kernel) (Nat.le_of_ble_eq_true rfl) rfl ?_
  obtain ⟨Q, hQ⟩ : ∃ Q : lk_Q, Q = fun rr σ1 τ1 => rr = some (lk_vi (nI (lk_kep (σ 11) (σ 2) (σ 3) nf k 4).1)) ∧ τ1 = τ ∧ ∃ W : lk_N, σ1 = W ∧ lk_fr σ W := ⟨_, rfl⟩
  rw [← hQ]
  have hk6 : k < 6 := Nat.lt_of_lt_of_le hk hV.2.2.1
  refine lk_aload_n dX8_keeper_0 rfl rfl ?_
  refine lk_getO (f := 0) (o' := 2) dX8_keeper_1 rfl fX8_14 (by decide) (by decide) rfl ?_
  refine lk_iload_n dX8_keeper_4 rfl rfl ?_
  refine lk_callV (o := 2) (as := [lk_vi (nI (k))]) (S := []) dX8_keeper_5 rfl vX0_hasLock rfl lX8_79 rfl rfl (Nat.le_of_ble_eq_true rfl) (tX0_hasLock_in l X (d + 5) σ τ (c := 2) (k := (k)) (hc := rfl) (n := n) (hn := hV.1) (hk := hk) (hn6 := hV.2.2.1)) ?_
  refine lk_k3 ?_
  refine lk_cast (pc' := 8) (S' := [lk_vi 1]) rfl rfl rfl ?_
  refine lk_if_ne (tgt := 13) dX8_keeper_8 (by decide) (fun hh1 => ?_) (fun hh1 => absurd hh1 (by decide))
  refine lk_iconst (v := 0) dX8_keeper_13 (by decide) ?_
  refine lk_istore_n (L' := [(0, lk_vr 0 0), (1, lk_vi (nI (k))), (2, lk_vi 0)]) dX8_keeper_14 rfl (by decide +kernel) rfl ?_
  refine lk_iconst (v := (-1)) dX8_keeper_15 (by decide) ?_
  refine lk_istore_n (L' := [(0, lk_vr 0 0), (1, lk_vi (nI (k))), (2, lk_vi 0), (3, lk_vi (-1))]) dX8_keeper_16 rfl (by decide +kernel) rfl ?_
  refine lk_iconst (v := 0) dX8_keeper_17 (by decide) ?_
  refine lk_istore (L' := [(0, lk_vr 0 0), (1, lk_vi (nI (k))), (2, lk_vi 0), (3, lk_vi (-1)), (4, lk_vi 0)]) dX8_keeper_18 (by decide +kernel) rfl ?_
  refine lk_iconst (v := 0) dX8_keeper_20 (by decide) ?_
  refine lk_istore (L' := [(0, lk_vr 0 0), (1, lk_vi (nI (k))), (2, lk_vi 0), (3, lk_vi (-1)), (4, lk_vi 0), (5, lk_vi 0)]) dX8_keeper_21 (by decide +kernel) rfl ?_
  have LP23 : ∀ (fu : Nat) (m a : Nat) (b c : Int32) (W : lk_N), m ≤ 4 → lk_fr σ W → lk_kep (σ 11) (σ 2) (σ 3) nf k m = (a, b, c) → 4 - m < fu → lk_W l X mX8_keeper (d + 6) 23 [(0, lk_vr 0 0), (1, lk_vi (nI (k))), (2, lk_vi (nI (a))), (3, lk_vi (b)), (4, lk_vi (c)), (5, lk_vi (nI (m)))] [] W τ Q := by
    intro fu
    induction fu with
    | zero => intro m a b c W hm hfr hI hfu; exact absurd hfu (by omega)
    | succ fu ih =>
      intro m a b c W hm hfr hI hfu
      refine lk_iload dX8_keeper_23 rfl ?_
      refine lk_iconst (v := 4) dX8_keeper_25 (by decide) ?_
      refine lk_icmp_geN (a := m) (b := 4) (tgt := 90) dX8_keeper_26 (by decide) (by omega) (by omega) (fun hh2 => ?_) (fun hh2 => ?_)
      ·
        refine lk_iload_n dX8_keeper_90 rfl rfl ?_
        refine lk_iret .int dX8_keeper_91 rfl rfl ?_
        rw [hQ]
        have hm4 : m = 4 := by omega
        subst hm4
        rw [hI]
        exact ⟨rfl, rfl, W, rfl, hfr⟩
      ·
        refine lk_aload_n dX8_keeper_29 rfl rfl ?_
        refine lk_iload_n dX8_keeper_30 rfl rfl ?_
        refine lk_iload dX8_keeper_31 rfl ?_
        refine lk_callV (o := 0) (as := [lk_vi (nI (k)), lk_vi (nI (m))]) (S := []) dX8_keeper_33 rfl vX8_runInThought rfl lX8_279 rfl rfl (Nat.le_of_ble_eq_true rfl) (tX8_runInThought l X d W τ (k := (k)) (ru := (m)) (n := n) (hV := by rw [hfr 2 rfl]; exact hV) (hk := hk) (nf := nf) (hn := by rw [hfr 11 rfl]; exact hn) (hn12 := hn12) (h01 := by rw [hfr 2 rfl]; exact h01) (hz := by rw [hfr 11 rfl]; exact hz) (hru := by omega)) ?_
        refine lk_k4 (F := fun W => W) (fun W2 hW2 => ?_)
        rw [hfr 11 rfl, hfr 2 rfl, hfr 3 rfl] at hW2
        refine lk_cast (pc' := 36) (S' := []) rfl rfl rfl ?_
        refine lk_aload_n dX8_keeper_36 rfl rfl ?_
        refine lk_getO (f := 12) (o' := 17) dX8_keeper_37 rfl fX8_57 (by decide) (by decide) rfl ?_
        refine lk_callV (o := 17) (as := []) (S := []) dX8_keeper_40 rfl vX4_done rfl lX8_285 rfl rfl (Nat.le_of_ble_eq_true rfl) (tX4_done l X (d + 5) W2 τ (y := 17) (hy := rfl) (hi := by rw [hW2.2.1]; rfl) (hj := by rw [hW2.2.1]; rfl)) ?_
        refine lk_k3 ?_
        refine lk_cast (pc' := 43) (S' := [lk_vi (nI ((lk_run (σ 11) (σ 2) (σ 3) nf k m).1.1 + (lk_run (σ 11) (σ 2) (σ 3) nf k m).1.2.1))]) rfl rfl rfl ?_
        refine lk_eqtop (y := (nI ((lk_run (σ 11) (σ 2) (σ 3) nf k m).1.1 + (lk_run (σ 11) (σ 2) (σ 3) nf k m).1.2.1))) rfl ?_
        refine lk_istore (L' := [(0, lk_vr 0 0), (1, lk_vi (nI (k))), (2, lk_vi (nI (a))), (3, lk_vi (b)), (4, lk_vi (c)), (5, lk_vi (nI (m))), (6, lk_vi (nI ((lk_run (σ 11) (σ 2) (σ 3) nf k m).1.1 + (lk_run (σ 11) (σ 2) (σ 3) nf k m).1.2.1)))]) dX8_keeper_43 (by decide +kernel) rfl ?_
        refine lk_iload dX8_keeper_45 rfl ?_
        refine lk_iload_n dX8_keeper_47 rfl rfl ?_
        refine lk_icmp_gt (tgt := 69) dX8_keeper_48 (by decide) (fun hh3 => ?_) (fun hh3 => ?_)
        ·
          refine lk_iload dX8_keeper_69 rfl ?_
          refine lk_istore_n (L' := [(0, lk_vr 0 0), (1, lk_vi (nI (k))), (2, lk_vi (nI (m))), (3, lk_vi (b)), (4, lk_vi (c)), (5, lk_vi (nI (m))), (6, lk_vi (nI ((lk_run (σ 11) (σ 2) (σ 3) nf k m).1.1 + (lk_run (σ 11) (σ 2) (σ 3) nf k m).1.2.1)))]) dX8_keeper_71 rfl (by decide +kernel) rfl ?_
          refine lk_iload dX8_keeper_72 rfl ?_
          refine lk_istore_n (L' := [(0, lk_vr 0 0), (1, lk_vi (nI (k))), (2, lk_vi (nI (m))), (3, lk_vi (nI ((lk_run (σ 11) (σ 2) (σ 3) nf k m).1.1 + (lk_run (σ 11) (σ 2) (σ 3) nf k m).1.2.1))), (4, lk_vi (c)), (5, lk_vi (nI (m))), (6, lk_vi (nI ((lk_run (σ 11) (σ 2) (σ 3) nf k m).1.1 + (lk_run (σ 11) (σ 2) (σ 3) nf k m).1.2.1)))]) dX8_keeper_74 rfl (by decide +kernel) rfl ?_
          refine lk_aload_n dX8_keeper_75 rfl rfl ?_
          refine lk_getO (f := 12) (o' := 17) dX8_keeper_76 rfl fX8_57 (by decide) (by decide) rfl ?_
          refine lk_getIv (v := ((lk_run (σ 11) (σ 2) (σ 3) nf k m).1.2.2)) (f := 2) dX8_keeper_79 rfl fX8_282 (by decide) (by decide) (by rw [hW2.2.1]; rfl) ?_
          refine lk_istore (L' := [(0, lk_vr 0 0), (1, lk_vi (nI (k))), (2, lk_vi (nI (m))), (3, lk_vi (nI ((lk_run (σ 11) (σ 2) (σ 3) nf k m).1.1 + (lk_run (σ 11) (σ 2) (σ 3) nf k m).1.2.1))), (4, lk_vi ((lk_run (σ 11) (σ 2) (σ 3) nf k m).1.2.2)), (5, lk_vi (nI (m))), (6, lk_vi (nI ((lk_run (σ 11) (σ 2) (σ 3) nf k m).1.1 + (lk_run (σ 11) (σ 2) (σ 3) nf k m).1.2.1)))]) dX8_keeper_82 (by decide +kernel) rfl ?_
          refine lk_iincN (a := m) (m := 1) (L' := [(0, lk_vr 0 0), (1, lk_vi (nI (k))), (2, lk_vi (nI (m))), (3, lk_vi (nI ((lk_run (σ 11) (σ 2) (σ 3) nf k m).1.1 + (lk_run (σ 11) (σ 2) (σ 3) nf k m).1.2.1))), (4, lk_vi ((lk_run (σ 11) (σ 2) (σ 3) nf k m).1.2.2)), (5, lk_vi (nI (m + 1))), (6, lk_vi (nI ((lk_run (σ 11) (σ 2) (σ 3) nf k m).1.1 + (lk_run (σ 11) (σ 2) (σ 3) nf k m).1.2.1)))]) dX8_keeper_84 rfl rfl (by decide +kernel) rfl ?_
          refine lk_goto (tgt := 23) dX8_keeper_87 (by decide) ?_
          refine lk_sub (L' := [(0, lk_vr 0 0), (1, lk_vi (nI (k))), (2, lk_vi (nI (m))), (3, lk_vi (nI ((lk_run (σ 11) (σ 2) (σ 3) nf k m).1.1 + (lk_run (σ 11) (σ 2) (σ 3) nf k m).1.2.1))), (4, lk_vi ((lk_run (σ 11) (σ 2) (σ 3) nf k m).1.2.2)), (5, lk_vi (nI (m + 1)))]) [0, 1, 2, 3, 4, 5] rfl ?_
          refine ih (m + 1) _ _ _ _ (by omega) (lk_fr_tr hfr hW2.1) ?_ (by omega)
          · rw [lk_kep, hI, if_pos (by first | exact Or.inl (by assumption) | exact Or.inr ⟨by assumption, Int32.not_le.mp (by assumption)⟩)]
        ·
          refine lk_iload dX8_keeper_51 rfl ?_
          refine lk_iload_n dX8_keeper_53 rfl rfl ?_
          refine lk_icmp_ne (tgt := 84) dX8_keeper_54 (by decide) (fun hh4 => ?_) (fun hh4 => ?_)
          ·
            refine lk_iincN (a := m) (m := 1) (L' := [(0, lk_vr 0 0), (1, lk_vi (nI (k))), (2, lk_vi (nI (a))), (3, lk_vi (b)), (4, lk_vi (c)), (5, lk_vi (nI (m + 1))), (6, lk_vi (nI ((lk_run (σ 11) (σ 2) (σ 3) nf k m).1.1 + (lk_run (σ 11) (σ 2) (σ 3) nf k m).1.2.1)))]) dX8_keeper_84 rfl rfl (by decide +kernel) rfl ?_
            refine lk_goto (tgt := 23) dX8_keeper_87 (by decide) ?_
            refine lk_sub (L' := [(0, lk_vr 0 0), (1, lk_vi (nI (k))), (2, lk_vi (nI (a))), (3, lk_vi (b)), (4, lk_vi (c)), (5, lk_vi (nI (m + 1)))]) [0, 1, 2, 3, 4, 5] rfl ?_
            refine ih (m + 1) _ _ _ _ (by omega) (lk_fr_tr hfr hW2.1) ?_ (by omega)
            · rw [lk_kep, hI, if_neg (by rintro (z | ⟨z1, z2⟩) <;> first | contradiction | exact absurd z2 (Int32.not_lt.mpr (by assumption)))]
          ·
            refine lk_aload_n dX8_keeper_57 rfl rfl ?_
            refine lk_getO (f := 12) (o' := 17) dX8_keeper_58 rfl fX8_57 (by decide) (by decide) rfl ?_
            refine lk_getIv (v := ((lk_run (σ 11) (σ 2) (σ 3) nf k m).1.2.2)) (f := 2) dX8_keeper_61 rfl fX8_282 (by decide) (by decide) (by rw [hW2.2.1]; rfl) ?_
            refine lk_iload dX8_keeper_64 rfl ?_
            refine lk_icmp_ge (tgt := 84) dX8_keeper_66 (by decide) (fun hh5 => ?_) (fun hh5 => ?_)
            ·
              refine lk_iincN (a := m) (m := 1) (L' := [(0, lk_vr 0 0), (1, lk_vi (nI (k))), (2, lk_vi (nI (a))), (3, lk_vi (b)), (4, lk_vi (c)), (5, lk_vi (nI (m + 1))), (6, lk_vi (nI ((lk_run (σ 11) (σ 2) (σ 3) nf k m).1.1 + (lk_run (σ 11) (σ 2) (σ 3) nf k m).1.2.1)))]) dX8_keeper_84 rfl rfl (by decide +kernel) rfl ?_
              refine lk_goto (tgt := 23) dX8_keeper_87 (by decide) ?_
              refine lk_sub (L' := [(0, lk_vr 0 0), (1, lk_vi (nI (k))), (2, lk_vi (nI (a))), (3, lk_vi (b)), (4, lk_vi (c)), (5, lk_vi (nI (m + 1)))]) [0, 1, 2, 3, 4, 5] rfl ?_
              refine ih (m + 1) _ _ _ _ (by omega) (lk_fr_tr hfr hW2.1) ?_ (by omega)
              · rw [lk_kep, hI, if_neg (by rintro (z | ⟨z1, z2⟩) <;> first | contradiction | exact absurd z2 (Int32.not_lt.mpr (by assumption)))]
            ·
              refine lk_iload dX8_keeper_69 rfl ?_
              refine lk_istore_n (L' := [(0, lk_vr 0 0), (1, lk_vi (nI (k))), (2, lk_vi (nI (m))), (3, lk_vi (b)), (4, lk_vi (c)), (5, lk_vi (nI (m))), (6, lk_vi (nI ((lk_run (σ 11) (σ 2) (σ 3) nf k m).1.1 + (lk_run (σ 11) (σ 2) (σ 3) nf k m).1.2.1)))]) dX8_keeper_71 rfl (by decide +kernel) rfl ?_
              refine lk_iload dX8_keeper_72 rfl ?_
              refine lk_istore_n (L' := [(0, lk_vr 0 0), (1, lk_vi (nI (k))), (2, lk_vi (nI (m))), (3, lk_vi (nI ((lk_run (σ 11) (σ 2) (σ 3) nf k m).1.1 + (lk_run (σ 11) (σ 2) (σ 3) nf k m).1.2.1))), (4, lk_vi (c)), (5, lk_vi (nI (m))), (6, lk_vi (nI ((lk_run (σ 11) (σ 2) (σ 3) nf k m).1.1 + (lk_run (σ 11) (σ 2) (σ 3) nf k m).1.2.1)))]) dX8_keeper_74 rfl (by decide +kernel) rfl ?_
              refine lk_aload_n dX8_keeper_75 rfl rfl ?_
              refine lk_getO (f := 12) (o' := 17) dX8_keeper_76 rfl fX8_57 (by decide) (by decide) rfl ?_
              refine lk_getIv (v := ((lk_run (σ 11) (σ 2) (σ 3) nf k m).1.2.2)) (f := 2) dX8_keeper_79 rfl fX8_282 (by decide) (by decide) (by rw [hW2.2.1]; rfl) ?_
              refine lk_istore (L' := [(0, lk_vr 0 0), (1, lk_vi (nI (k))), (2, lk_vi (nI (m))), (3, lk_vi (nI ((lk_run (σ 11) (σ 2) (σ 3) nf k m).1.1 + (lk_run (σ 11) (σ 2) (σ 3) nf k m).1.2.1))), (4, lk_vi ((lk_run (σ 11) (σ 2) (σ 3) nf k m).1.2.2)), (5, lk_vi (nI (m))), (6, lk_vi (nI ((lk_run (σ 11) (σ 2) (σ 3) nf k m).1.1 + (lk_run (σ 11) (σ 2) (σ 3) nf k m).1.2.1)))]) dX8_keeper_82 (by decide +kernel) rfl ?_
              refine lk_iincN (a := m) (m := 1) (L' := [(0, lk_vr 0 0), (1, lk_vi (nI (k))), (2, lk_vi (nI (m))), (3, lk_vi (nI ((lk_run (σ 11) (σ 2) (σ 3) nf k m).1.1 + (lk_run (σ 11) (σ 2) (σ 3) nf k m).1.2.1))), (4, lk_vi ((lk_run (σ 11) (σ 2) (σ 3) nf k m).1.2.2)), (5, lk_vi (nI (m + 1))), (6, lk_vi (nI ((lk_run (σ 11) (σ 2) (σ 3) nf k m).1.1 + (lk_run (σ 11) (σ 2) (σ 3) nf k m).1.2.1)))]) dX8_keeper_84 rfl rfl (by decide +kernel) rfl ?_
              refine lk_goto (tgt := 23) dX8_keeper_87 (by decide) ?_
              refine lk_sub (L' := [(0, lk_vr 0 0), (1, lk_vi (nI (k))), (2, lk_vi (nI (m))), (3, lk_vi (nI ((lk_run (σ 11) (σ 2) (σ 3) nf k m).1.1 + (lk_run (σ 11) (σ 2) (σ 3) nf k m).1.2.1))), (4, lk_vi ((lk_run (σ 11) (σ 2) (σ 3) nf k m).1.2.2)), (5, lk_vi (nI (m + 1)))]) [0, 1, 2, 3, 4, 5] rfl ?_
              refine ih (m + 1) _ _ _ _ (by omega) (lk_fr_tr hfr hW2.1) ?_ (by omega)
              · rw [lk_kep, hI, if_pos (by first | exact Or.inl (by assumption) | exact Or.inr ⟨by assumption, Int32.not_le.mp (by assumption)⟩)]
  exact LP23 5 0 0 (-1) 0 σ (Nat.zero_le _) (lk_fr_rf σ) rfl (by omega)
