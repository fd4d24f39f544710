theorem lk_yS_ne {σ : lk_N} {c o : Nat} {j : lk_J} (h : ¬ o = c) (h1 : ¬ o = c + 1) (h2 : ¬ o = c + 2) : lk_yS σ c j o = σ o := by
  obtain ⟨_ | ⟨k, q⟩, V, T⟩ := j
  · exact lk_s2_ne h h1
  · show lk_so (lk_s2 σ c _ T) (c + 2) _ o = σ o
    rw [lk_so_ne h2, lk_s2_ne h h1]
/-- a canal's numbers behind passages: the flag put, if one was barred -/
def lk_fl (j : lk_J) : lk_O := match j.1 with
  | none => j.2.1
  | some _ => lk_ou j.2.1 12 0 1
def lk_fK (K : lk_O) (j : lk_J) : lk_O := match j.1 with
  | none => K
  | some (k, q) => lk_kau K (nI k) q
theorem lk_yS_3 (σ : lk_N) (c : Nat) (j : lk_J) : lk_yS σ c j = lk_so (lk_s2 σ c (lk_fl j) j.2.2) (c + 2) (lk_fK (σ (c + 2)) j) := by
  obtain ⟨_ | ⟨k, q⟩, V, T⟩ := j
  · show lk_s2 σ c V T = lk_so (lk_s2 σ c V T) (c + 2) (σ (c + 2))
    have h : σ (c + 2) = lk_s2 σ c V T (c + 2) := (lk_s2_ne (by omega) (by omega)).symm
    conv => rhs; rw [h]
    exact (lk_so_self _ _).symm
  · rfl
theorem lk_im_cok {V W : lk_O} {n : Nat} (h : lk_cok V n) : lk_cok (lk_im V W) n := h
theorem lk_dyl_cok {n u d : Nat} : ∀ (m a b : Nat) (V T : lk_O), lk_cok V n → lk_cok (lk_dyl n u d m a b V T).2.2.1 n
  | 0, a, b, V, T, h => h
  | m + 1, a, b, V, T, h => by
    unfold lk_dyl
    have h1 := lk_trv_cok (up := lk_way u d a b) (z := 0) (n := n) (by decide) (by decide) (lk_lks (lk_way u d a b) (if lk_way u d a b = true then 0 else n) n) V T (lk_lks_lt (by split <;> omega)) h
    rcases hr : lk_trv (lk_way u d a b) 0 (lk_lks (lk_way u d a b) (if lk_way u d a b = true then 0 else n) n) V T with ⟨i, _ | q, V', T'⟩
    · rw [hr] at h1
      exact lk_dyl_cok m _ _ V' T' h1.1
    · rw [hr] at h1
      exact h1.1
theorem lk_fl_cok {j : lk_J} {n : Nat} (h : lk_cok j.2.1 n) : lk_cok (lk_fl j) n := by
  obtain ⟨_ | q, V, T⟩ := j
  · exact h
  · refine ⟨?_, h.2.1, h.2.2.1, fun k hk => ?_⟩
    · have := h.1; simp [lk_fl, lk_ou]; exact this
    · have := h.2.2.2 k hk
      unfold lk_lok at this ⊢
      simp [lk_fl, lk_ou]
      exact this
theorem lk_day_cok {V T : lk_O} {n u d : Nat} (h : lk_cok V n) : lk_cok (lk_fl (lk_day V T n u d).2) n := lk_fl_cok (lk_dyl_cok _ _ _ _ _ (lk_lag_cok h))
/-- days in thought -/
def lk_dys (n u e : Nat) : Nat → lk_O → lk_O → lk_O × lk_O
  | 0, V, T => (V, T)
  | i + 1, V, T => lk_dys n u e i (lk_fl (lk_day V T n u e).2) (lk_day V T n u e).2.2.2
theorem lk_dys_cok {n u e : Nat} : ∀ (m : Nat) (V T : lk_O), lk_cok V n → lk_cok (lk_dys n u e m V T).1 n
  | 0, V, T, h => h
  | m + 1, V, T, h => lk_dys_cok m _ _ (lk_day_cok h)
/-- behind how many days the next one is barred, and at which lock; m days are looked at -/
def lk_drf (n u e : Nat) : Nat → Nat → lk_O → lk_O → Option (Nat × Nat)
  | 0, _, _, _ => none
  | m + 1, i, V, T => match (lk_day V T n u e).2.1 with
    | some (k, _) => some (i, k)
    | none => lk_drf n u e m (i + 1) (lk_fl (lk_day V T n u e).2) (lk_day V T n u e).2.2.2
abbrev lk_s3 (σ : lk_N) (V T K : lk_O) : lk_N := lk_so (lk_s2 σ 8 V T) 10 K
theorem lk_s3_8 (σ : lk_N) (V T K : lk_O) : lk_s3 σ V T K 8 = V := by rw [lk_s3, lk_so_ne (by decide), lk_s2_c]
theorem lk_s3_9 (σ : lk_N) (V T K : lk_O) : lk_s3 σ V T K 9 = T := by rw [lk_s3, lk_so_ne (by decide)]; exact lk_s2_t σ 8 V T
theorem lk_s3_10 (σ : lk_N) (V T K : lk_O) : lk_s3 σ V T K 10 = K := lk_so_eq _ _ _
theorem lk_s3_ne {σ : lk_N} {o : Nat} {V T K : lk_O} (h : ¬ o = 8) (h1 : ¬ o = 9) (h2 : ¬ o = 10) : lk_s3 σ V T K o = σ o := by rw [lk_s3, lk_so_ne h2, lk_s2_ne h h1]
theorem lk_s3_yS (σ : lk_N) (V T K : lk_O) (j : lk_J) : lk_yS (lk_s3 σ V T K) 8 j = lk_s3 σ (lk_fl j) j.2.2 (lk_fK K j) := by
  rw [lk_yS_3]
  show lk_so (lk_s2 (lk_s3 σ V T K) 8 (lk_fl j) j.2.2) 10 (lk_fK (lk_s3 σ V T K 10) j) = _
  rw [lk_s3_10]
  funext a
  simp only [lk_s3, lk_s2, lk_so]
  grind
theorem lk_s3_self (σ : lk_N) : lk_s3 σ (σ 8) (σ 9) (σ 10) = σ := by
  have h1 : lk_s2 σ 8 (σ 8) (σ 9) = σ := lk_s2_self σ 8
  rw [lk_s3, h1, lk_so_self]
theorem lk_s3_cp (σ : lk_N) (V T K V2 T2 : lk_O) : lk_so (lk_so (lk_s3 σ V T K) 8 V2) 9 T2 = lk_s3 σ V2 T2 K := by
  funext a
  simp only [lk_s3, lk_s2, lk_so]
  grind
theorem lk_s3_cp0 (σ : lk_N) (V2 T2 : lk_O) : lk_so (lk_so σ 8 V2) 9 T2 = lk_s3 σ V2 T2 (σ 10) := by
  conv => lhs; rw [← lk_s3_self σ]
  exact lk_s3_cp σ _ _ _ V2 T2
theorem lk_yS_flag (σ : lk_N) (j : lk_J) (h : j.2.1 12 0 = 0) : lk_fl j 12 0 = if j.1 = none then 0 else 1 := by
  obtain ⟨_ | q, V, T⟩ := j
  · simpa [lk_fl] using h
  · simp [lk_fl, lk_ou]
theorem lk_dyl_flag {n u d : Nat} : ∀ (m a b : Nat) (V T : lk_O), lk_cok V n → V 12 0 = 0 → (lk_dyl n u d m a b V T).2.2.1 12 0 = 0
  | 0, a, b, V, T, _, h => h
  | m + 1, a, b, V, T, hc, h => by
    unfold lk_dyl
    have h1 := lk_trv_cok (up := lk_way u d a b) (z := 0) (n := n) (by decide) (by decide) (lk_lks (lk_way u d a b) (if lk_way u d a b = true then 0 else n) n) V T (lk_lks_lt (by split <;> omega)) hc
    rcases hr : lk_trv (lk_way u d a b) 0 (lk_lks (lk_way u d a b) (if lk_way u d a b = true then 0 else n) n) V T with ⟨i, _ | q, V', T'⟩
    · rw [hr] at h1
      exact lk_dyl_flag m _ _ V' T' h1.1 (h1.2.trans h)
    · rw [hr] at h1
      exact h1.2.trans h
theorem lk_day_flag {V T : lk_O} {n u d : Nat} (h : lk_cok V n) : (lk_day V T n u d).2.2.1 12 0 = 0 := lk_dyl_flag _ _ _ _ _ (lk_lag_cok h) (by simp [lk_ou])
set_option maxHeartbeats 1000000 in
set_option maxRecDepth 100000 in
theorem tX8_pass_out (l : Launch) (X : lk_G) (d : Nat) (σ : lk_N) (τ : lk_T) (b : Int32) (hb : b < 0 ∨ σ 11 5 0 ≤ b) : lk_Mt l X mX8_pass (d + 3) [lk_vr 0 0, lk_vi (b)] σ τ (fun rr σ1 τ1 => rr = some (lk_vi (-2000000)) ∧ σ1 = σ ∧ τ1 = τ) := by
  refine lk_met (L := [(0, lk_vr 0 0), (1, lk_vi (b))]) (by decide +kernel) (Nat.le_of_ble_eq_true rfl) rfl ?_
  obtain ⟨Q, hQ⟩ : ∃ Q : lk_Q, Q = fun rr σ1 τ1 => rr = some (lk_vi (-2000000)) ∧ σ1 = σ ∧ τ1 = τ := ⟨_, rfl⟩
  rw [← hQ]
  refine lk_aload_n dX8_pass_0 rfl rfl ?_
  refine lk_getO (f := 1) (o' := 11) dX8_pass_1 rfl fX8_21 (by decide) (by decide) rfl ?_
  refine lk_iload_n dX8_pass_4 rfl rfl ?_
  refine lk_callV (o := 11) (as := [lk_vi (b)]) (S := []) dX8_pass_5 rfl vX2_has rfl lX8_164 rfl rfl (Nat.le_of_ble_eq_true rfl) (tX2_has_out l X (d + 2) σ τ (f := 11) (b := (b)) (hf := rfl) (hb := hb)) ?_
  refine lk_k3 ?_
  refine lk_cast (pc' := 8) (S' := [lk_vi 0]) rfl rfl rfl ?_
  refine lk_if_ne (tgt := 14) dX8_pass_8 (by decide) (fun hh1 => absurd hh1 (by decide)) (fun hh1 => ?_)
  refine lk_ldc dX8_pass_11 kX8_186 ?_
  refine lk_iret .int dX8_pass_13 rfl rfl ?_
  rw [hQ]
  exact ⟨by first | rfl | (simp [*]; done) | (simp_all; done) | grind, by first | rfl | (simp [*]; done), rfl⟩

set_option maxHeartbeats 1000000 in
set_option maxRecDepth 100000 in
theorem tX8_pass_none_up (l : Launch) (X : lk_G) (d : Nat) (σ : lk_N) (τ : lk_T) (n : Nat) (hV : lk_cok (σ 2) n) (nf b : Nat) (hn : σ 11 5 0 = nI nf) (hb : b < nf) (hn12 : nf ≤ 12) (hu : σ 11 3 b = 1) (hr : σ 11 4 b = nI n) : lk_Mt l X mX8_pass (d + 3) [lk_vr 0 0, lk_vi (nI (b))] σ τ (fun rr σ1 τ1 => rr = some (lk_vi (-2000001)) ∧ σ1 = σ ∧ τ1 = τ) := by
  refine lk_met (L := [(0, lk_vr 0 0), (1, lk_vi (nI (b)))]) (by decide +kernel) (Nat.le_of_ble_eq_true rfl) rfl ?_
  obtain ⟨Q, hQ⟩ : ∃ Q : lk_Q, Q = fun rr σ1 τ1 => rr = some (lk_vi (-2000001)) ∧ σ1 = σ ∧ τ1 = τ := ⟨_, rfl⟩
  rw [← hQ]
  refine lk_aload_n dX8_pass_0 rfl rfl ?_
  refine lk_getO (f := 1) (o' := 11) dX8_pass_1 rfl fX8_21 (by decide) (by decide) rfl ?_
  refine lk_iload_n dX8_pass_4 rfl rfl ?_
  refine lk_callV (o := 11) (as := [lk_vi (nI (b))]) (S := []) dX8_pass_5 rfl vX2_has rfl lX8_164 rfl rfl (Nat.le_of_ble_eq_true rfl) (tX2_has_in l X (d + 2) σ τ (f := 11) (b := (b)) (hf := rfl) (n := nf) (hn := hn) (hb := hb) (hn22 := by omega)) ?_
  refine lk_k3 ?_
  refine lk_cast (pc' := 8) (S' := [lk_vi 1]) rfl rfl rfl ?_
  refine lk_if_ne (tgt := 14) dX8_pass_8 (by decide) (fun hh1 => ?_) (fun hh1 => absurd hh1 (by decide))
  refine lk_aload_n dX8_pass_14 rfl rfl ?_
  refine lk_getO (f := 1) (o' := 11) dX8_pass_15 rfl fX8_21 (by decide) (by decide) rfl ?_
  refine lk_getR (f := 3) dX8_pass_18 rfl fX8_182 (by decide) (by decide) ?_
  refine lk_iload_n dX8_pass_21 rfl rfl ?_
  refine lk_zaldN (f := 3) (i := b) dX8_pass_22 rfl (by decide) rfl (by omega) (by decide) ?_
  refine lk_eqtop (y := 1) hu ?_
  refine lk_istore_n (L' := [(0, lk_vr 0 0), (1, lk_vi (nI (b))), (2, lk_vi 1)]) dX8_pass_23 rfl (by decide +kernel) rfl ?_
  refine lk_aload_n dX8_pass_24 rfl rfl ?_
  refine lk_getO (f := 1) (o' := 11) dX8_pass_25 rfl fX8_21 (by decide) (by decide) rfl ?_
  refine lk_getR (f := 4) dX8_pass_28 rfl fX8_187 (by decide) (by decide) ?_
  refine lk_iload_n dX8_pass_31 rfl rfl ?_
  refine lk_ialdN (f := 4) (i := b) dX8_pass_32 rfl (by decide) rfl (by omega) (by decide) ?_
  refine lk_eqtop (y := (nI (n))) hr ?_
  refine lk_iload_n dX8_pass_33 rfl rfl ?_
  refine lk_callS (as := [lk_vi (nI (n)), lk_vi 1]) (S := []) dX8_pass_34 rfl vX0_lockFrom rfl lX8_190 (Nat.le_of_ble_eq_true rfl) (tX0_lockFrom_up l X (d + 2) σ τ (r := (n)) ) ?_
  refine lk_k3 ?_
  refine lk_cast (pc' := 37) (S' := [lk_vi (nI ((n)))]) rfl rfl rfl ?_
  refine lk_istore_n (L' := [(0, lk_vr 0 0), (1, lk_vi (nI (b))), (2, lk_vi 1), (3, lk_vi (nI ((n))))]) dX8_pass_37 rfl (by decide +kernel) rfl ?_
  refine lk_aload_n dX8_pass_38 rfl rfl ?_
  refine lk_getO (f := 0) (o' := 2) dX8_pass_39 rfl fX8_14 (by decide) (by decide) rfl ?_
  refine lk_iload_n dX8_pass_42 rfl rfl ?_
  refine lk_callV (o := 2) (as := [lk_vi (nI ((n)))]) (S := []) dX8_pass_43 rfl vX0_hasLock rfl lX8_79 rfl rfl (Nat.le_of_ble_eq_true rfl) (tX0_hasLock_out l X (d + 2) σ τ (c := 2) (k := (nI ((n)))) (hc := rfl) (hk := Or.inr (by rw [hV.1]; exact Int32.le_refl _))) ?_
  refine lk_k3 ?_
  refine lk_cast (pc' := 46) (S' := [lk_vi 0]) rfl rfl rfl ?_
  refine lk_if_ne (tgt := 52) dX8_pass_46 (by decide) (fun hh2 => absurd hh2 (by decide)) (fun hh2 => ?_)
  refine lk_ldc dX8_pass_49 kX8_194 ?_
  refine lk_iret .int dX8_pass_51 rfl rfl ?_
  rw [hQ]
  exact ⟨by first | rfl | (simp [*]; done) | (simp_all; done) | grind, by first | rfl | (simp [*]; done), rfl⟩

set_option maxHeartbeats 1000000 in
set_option maxRecDepth 100000 in
theorem tX8_pass_ok_up (l : Launch) (X : lk_G) (d : Nat) (σ : lk_N) (τ : lk_T) (n : Nat) (hV : lk_cok (σ 2) n) (nf b : Nat) (hn : σ 11 5 0 = nI nf) (hb : b < nf) (hn12 : nf ≤ 12) (k : Nat) (hk : k < n) (z : Int32) (hu : σ 11 3 b = 1) (hr : σ 11 4 b = nI (k)) (hs : σ 11 1 b = z) (hz : 0 ≤ z.toInt) (hz9 : z.toInt ≤ 9) (V : lk_O) (hp : lk_pas (σ 2) k true z = .inl V) : lk_Mt l X mX8_pass (d + 3) [lk_vr 0 0, lk_vi (nI (b))] σ τ (fun rr σ1 τ1 => rr = some (lk_vi (σ 2 6 (k + 1) - V 6 (k + 1))) ∧ σ1 = lk_up (lk_s2 σ 2 V (lk_tad (σ 3) (σ 2 6 (k + 1) - V 6 (k + 1)))) 11 4 b (σ 11 4 b + 1) ∧ τ1 = τ) := by
  refine lk_met (L := [(0, lk_vr 0 0), (1, lk_vi (nI (b)))]) (by decide +kernel) (Nat.le_of_ble_eq_true rfl) rfl ?_
  obtain ⟨Q, hQ⟩ : ∃ Q : lk_Q, Q = fun rr σ1 τ1 => rr = some (lk_vi (σ 2 6 (k + 1) - V 6 (k + 1))) ∧ σ1 = lk_up (lk_s2 σ 2 V (lk_tad (σ 3) (σ 2 6 (k + 1) - V 6 (k + 1)))) 11 4 b (σ 11 4 b + 1) ∧ τ1 = τ := ⟨_, rfl⟩
  rw [← hQ]
  refine lk_aload_n dX8_pass_0 rfl rfl ?_
  refine lk_getO (f := 1) (o' := 11) dX8_pass_1 rfl fX8_21 (by decide) (by decide) rfl ?_
  refine lk_iload_n dX8_pass_4 rfl rfl ?_
  refine lk_callV (o := 11) (as := [lk_vi (nI (b))]) (S := []) dX8_pass_5 rfl vX2_has rfl lX8_164 rfl rfl (Nat.le_of_ble_eq_true rfl) (tX2_has_in l X (d + 2) σ τ (f := 11) (b := (b)) (hf := rfl) (n := nf) (hn := hn) (hb := hb) (hn22 := by omega)) ?_
  refine lk_k3 ?_
  refine lk_cast (pc' := 8) (S' := [lk_vi 1]) rfl rfl rfl ?_
  refine lk_if_ne (tgt := 14) dX8_pass_8 (by decide) (fun hh1 => ?_) (fun hh1 => absurd hh1 (by decide))
  refine lk_aload_n dX8_pass_14 rfl rfl ?_
  refine lk_getO (f := 1) (o' := 11) dX8_pass_15 rfl fX8_21 (by decide) (by decide) rfl ?_
  refine lk_getR (f := 3) dX8_pass_18 rfl fX8_182 (by decide) (by decide) ?_
  refine lk_iload_n dX8_pass_21 rfl rfl ?_
  refine lk_zaldN (f := 3) (i := b) dX8_pass_22 rfl (by decide) rfl (by omega) (by decide) ?_
  refine lk_eqtop (y := 1) hu ?_
  refine lk_istore_n (L' := [(0, lk_vr 0 0), (1, lk_vi (nI (b))), (2, lk_vi 1)]) dX8_pass_23 rfl (by decide +kernel) rfl ?_
  refine lk_aload_n dX8_pass_24 rfl rfl ?_
  refine lk_getO (f := 1) (o' := 11) dX8_pass_25 rfl fX8_21 (by decide) (by decide) rfl ?_
  refine lk_getR (f := 4) dX8_pass_28 rfl fX8_187 (by decide) (by decide) ?_
  refine lk_iload_n dX8_pass_31 rfl rfl ?_
  refine lk_ialdN (f := 4) (i := b) dX8_pass_32 rfl (by decide) rfl (by omega) (by decide) ?_
  refine lk_eqtop (y := (nI (k))) hr ?_
  refine lk_iload_n dX8_pass_33 rfl rfl ?_
  refine lk_callS (as := [lk_vi (nI (k)), lk_vi 1]) (S := []) dX8_pass_34 rfl vX0_lockFrom rfl lX8_190 (Nat.le_of_ble_eq_true rfl) (tX0_lockFrom_up l X (d + 2) σ τ (r := (k)) ) ?_
  refine lk_k3 ?_
  refine lk_cast (pc' := 37) (S' := [lk_vi (nI ((k)))]) rfl rfl rfl ?_
  refine lk_istore_n (L' := [(0, lk_vr 0 0), (1, lk_vi (nI (b))), (2, lk_vi 1), (3, lk_vi (nI ((k))))]) dX8_pass_37 rfl (by decide +kernel) rfl ?_
  refine lk_aload_n dX8_pass_38 rfl rfl ?_
  refine lk_getO (f := 0) (o' := 2) dX8_pass_39 rfl fX8_14 (by decide) (by decide) rfl ?_
  refine lk_iload_n dX8_pass_42 rfl rfl ?_
  refine lk_callV (o := 2) (as := [lk_vi (nI ((k)))]) (S := []) dX8_pass_43 rfl vX0_hasLock rfl lX8_79 rfl rfl (Nat.le_of_ble_eq_true rfl) (tX0_hasLock_in l X (d + 2) σ τ (c := 2) (k := ((k))) (hc := rfl) (n := n) (hn := hV.1) (hk := hk) (hn6 := hV.2.2.1)) ?_
  refine lk_k3 ?_
  refine lk_cast (pc' := 46) (S' := [lk_vi 1]) rfl rfl rfl ?_
  refine lk_if_ne (tgt := 52) dX8_pass_46 (by decide) (fun hh2 => ?_) (fun hh2 => absurd hh2 (by decide))
  refine lk_aload_n dX8_pass_52 rfl rfl ?_
  refine lk_getO (f := 0) (o' := 2) dX8_pass_53 rfl fX8_14 (by decide) (by decide) rfl ?_
  refine lk_iload_n dX8_pass_56 rfl rfl ?_
  refine lk_iload_n dX8_pass_57 rfl rfl ?_
  refine lk_aload_n dX8_pass_58 rfl rfl ?_
  refine lk_getO (f := 1) (o' := 11) dX8_pass_59 rfl fX8_21 (by decide) (by decide) rfl ?_
  refine lk_getR (f := 1) dX8_pass_62 rfl fX8_195 (by decide) (by decide) ?_
  refine lk_iload_n dX8_pass_65 rfl rfl ?_
  refine lk_ialdN (f := 1) (i := b) dX8_pass_66 rfl (by decide) rfl (by omega) (by decide) ?_
  refine lk_eqtop (y := (z)) hs ?_
  refine lk_callV (o := 2) (as := [lk_vi (nI ((k))), lk_vi 1, lk_vi (z)]) (S := []) dX8_pass_67 rfl vX0_passage rfl lX8_198 rfl rfl (Nat.le_of_ble_eq_true rfl) (tX0_passage_ok l X d σ τ (c := 2) (k := ((k))) (z := (z)) (b := true) (hc := rfl) (n := n) (hV := hV) (hk := hk) (V := V) (h := hp)) ?_
  refine lk_k3 ?_
  refine lk_cast (pc' := 70) (S' := [lk_vi (σ 2 6 (((k)) + 1) - V 6 (((k)) + 1))]) rfl rfl rfl ?_
  refine lk_istore (L' := [(0, lk_vr 0 0), (1, lk_vi (nI (b))), (2, lk_vi 1), (3, lk_vi (nI ((k)))), (4, lk_vi (σ 2 6 (((k)) + 1) - V 6 (((k)) + 1)))]) dX8_pass_70 (by decide +kernel) rfl ?_
  refine lk_iload dX8_pass_72 rfl ?_
  refine lk_ldc dX8_pass_74 kX8_202 ?_
  refine lk_icmp_eq (tgt := 88) dX8_pass_76 (by decide) (fun hh3 => absurd hh3 (lk_sp_ne (lk_pas_ok hp (hV.2.2.2 k (Nat.lt_of_lt_of_le hk hV.2.2.1)) hz hz9).2.2.1)) (fun hh3 => ?_)
  refine lk_aload_n dX8_pass_79 rfl rfl ?_
  refine lk_getO (f := 1) (o' := 11) dX8_pass_80 rfl fX8_21 (by decide) (by decide) rfl ?_
  refine lk_iload_n dX8_pass_83 rfl rfl ?_
  refine lk_iconst (v := 1) dX8_pass_84 (by decide) ?_
  refine lk_callV (o := 11) (as := [lk_vi (nI (b)), lk_vi 1]) (S := []) dX8_pass_85 rfl vX2_moveOn rfl lX8_203 rfl rfl (Nat.le_of_ble_eq_true rfl) (tX2_moveOn l X (d + 1) (lk_s2 σ 2 V (lk_tad (σ (2 + 1)) (σ 2 6 (((k)) + 1) - V 6 (((k)) + 1)))) τ (f := 11) (b := (b)) (r := 1) (hf := rfl) (n := nf) (hn := by rw [lk_s2_ne (by decide) (by decide)]; exact hn) (hb := hb) (hn22 := by omega)) ?_
  refine lk_k3 ?_
  refine lk_cast (pc' := 88) (S' := []) rfl rfl rfl ?_
  refine lk_iload dX8_pass_88 rfl ?_
  refine lk_iret .int dX8_pass_90 rfl rfl ?_
  rw [hQ]
  refine ⟨rfl, ?_, rfl⟩
  have h2 : (lk_s2 σ 2 V (lk_tad (σ 3) (σ 2 6 (k + 1) - V 6 (k + 1)))) 11 = σ 11 := lk_s2_ne (by decide) (by decide)
  simp only [h2, hu]
  rfl

set_option maxHeartbeats 1000000 in
set_option maxRecDepth 100000 in
theorem tX8_pass_bar_up (l : Launch) (X : lk_G) (d : Nat) (σ : lk_N) (τ : lk_T) (n : Nat) (hV : lk_cok (σ 2) n) (nf b : Nat) (hn : σ 11 5 0 = nI nf) (hb : b < nf) (hn12 : nf ≤ 12) (k : Nat) (hk : k < n) (z : Int32) (hu : σ 11 3 b = 1) (hr : σ 11 4 b = nI (k)) (hs : σ 11 1 b = z) (hz : 0 ≤ z.toInt) (hz9 : z.toInt ≤ 9) (q : Int32 × Nat × Int32) (hp : lk_pas (σ 2) k true z = .inr q) : lk_Mt l X mX8_pass (d + 3) [lk_vr 0 0, lk_vi (nI (b))] σ τ (fun rr σ1 τ1 => rr = some (lk_vi (-2000002)) ∧ σ1 = lk_so σ 4 (lk_kau (σ 4) (nI k) q) ∧ τ1 = τ) := by
  refine lk_met (L := [(0, lk_vr 0 0), (1, lk_vi (nI (b)))]) (by decide +kernel) (Nat.le_of_ble_eq_true rfl) rfl ?_
  obtain ⟨Q, hQ⟩ : ∃ Q : lk_Q, Q = fun rr σ1 τ1 => rr = some (lk_vi (-2000002)) ∧ σ1 = lk_so σ 4 (lk_kau (σ 4) (nI k) q) ∧ τ1 = τ := ⟨_, rfl⟩
  rw [← hQ]
  refine lk_aload_n dX8_pass_0 rfl rfl ?_
  refine lk_getO (f := 1) (o' := 11) dX8_pass_1 rfl fX8_21 (by decide) (by decide) rfl ?_
  refine lk_iload_n dX8_pass_4 rfl rfl ?_
  refine lk_callV (o := 11) (as := [lk_vi (nI (b))]) (S := []) dX8_pass_5 rfl vX2_has rfl lX8_164 rfl rfl (Nat.le_of_ble_eq_true rfl) (tX2_has_in l X (d + 2) σ τ (f := 11) (b := (b)) (hf := rfl) (n := nf) (hn := hn) (hb := hb) (hn22 := by omega)) ?_
  refine lk_k3 ?_
  refine lk_cast (pc' := 8) (S' := [lk_vi 1]) rfl rfl rfl ?_
  refine lk_if_ne (tgt := 14) dX8_pass_8 (by decide) (fun hh1 => ?_) (fun hh1 => absurd hh1 (by decide))
  refine lk_aload_n dX8_pass_14 rfl rfl ?_
  refine lk_getO (f := 1) (o' := 11) dX8_pass_15 rfl fX8_21 (by decide) (by decide) rfl ?_
  refine lk_getR (f := 3) dX8_pass_18 rfl fX8_182 (by decide) (by decide) ?_
  refine lk_iload_n dX8_pass_21 rfl rfl ?_
  refine lk_zaldN (f := 3) (i := b) dX8_pass_22 rfl (by decide) rfl (by omega) (by decide) ?_
  refine lk_eqtop (y := 1) hu ?_
  refine lk_istore_n (L' := [(0, lk_vr 0 0), (1, lk_vi (nI (b))), (2, lk_vi 1)]) dX8_pass_23 rfl (by decide +kernel) rfl ?_
  refine lk_aload_n dX8_pass_24 rfl rfl ?_
  refine lk_getO (f := 1) (o' := 11) dX8_pass_25 rfl fX8_21 (by decide) (by decide) rfl ?_
  refine lk_getR (f := 4) dX8_pass_28 rfl fX8_187 (by decide) (by decide) ?_
  refine lk_iload_n dX8_pass_31 rfl rfl ?_
  refine lk_ialdN (f := 4) (i := b) dX8_pass_32 rfl (by decide) rfl (by omega) (by decide) ?_
  refine lk_eqtop (y := (nI (k))) hr ?_
  refine lk_iload_n dX8_pass_33 rfl rfl ?_
  refine lk_callS (as := [lk_vi (nI (k)), lk_vi 1]) (S := []) dX8_pass_34 rfl vX0_lockFrom rfl lX8_190 (Nat.le_of_ble_eq_true rfl) (tX0_lockFrom_up l X (d + 2) σ τ (r := (k)) ) ?_
  refine lk_k3 ?_
  refine lk_cast (pc' := 37) (S' := [lk_vi (nI ((k)))]) rfl rfl rfl ?_
  refine lk_istore_n (L' := [(0, lk_vr 0 0), (1, lk_vi (nI (b))), (2, lk_vi 1), (3, lk_vi (nI ((k))))]) dX8_pass_37 rfl (by decide +kernel) rfl ?_
  refine lk_aload_n dX8_pass_38 rfl rfl ?_
  refine lk_getO (f := 0) (o' := 2) dX8_pass_39 rfl fX8_14 (by decide) (by decide) rfl ?_
  refine lk_iload_n dX8_pass_42 rfl rfl ?_
  refine lk_callV (o := 2) (as := [lk_vi (nI ((k)))]) (S := []) dX8_pass_43 rfl vX0_hasLock rfl lX8_79 rfl rfl (Nat.le_of_ble_eq_true rfl) (tX0_hasLock_in l X (d + 2) σ τ (c := 2) (k := ((k))) (hc := rfl) (n := n) (hn := hV.1) (hk := hk) (hn6 := hV.2.2.1)) ?_
  refine lk_k3 ?_
  refine lk_cast (pc' := 46) (S' := [lk_vi 1]) rfl rfl rfl ?_
  refine lk_if_ne (tgt := 52) dX8_pass_46 (by decide) (fun hh2 => ?_) (fun hh2 => absurd hh2 (by decide))
  refine lk_aload_n dX8_pass_52 rfl rfl ?_
  refine lk_getO (f := 0) (o' := 2) dX8_pass_53 rfl fX8_14 (by decide) (by decide) rfl ?_
  refine lk_iload_n dX8_pass_56 rfl rfl ?_
  refine lk_iload_n dX8_pass_57 rfl rfl ?_
  refine lk_aload_n dX8_pass_58 rfl rfl ?_
  refine lk_getO (f := 1) (o' := 11) dX8_pass_59 rfl fX8_21 (by decide) (by decide) rfl ?_
  refine lk_getR (f := 1) dX8_pass_62 rfl fX8_195 (by decide) (by decide) ?_
  refine lk_iload_n dX8_pass_65 rfl rfl ?_
  refine lk_ialdN (f := 1) (i := b) dX8_pass_66 rfl (by decide) rfl (by omega) (by decide) ?_
  refine lk_eqtop (y := (z)) hs ?_
  refine lk_callV (o := 2) (as := [lk_vi (nI ((k))), lk_vi 1, lk_vi (z)]) (S := []) dX8_pass_67 rfl vX0_passage rfl lX8_198 rfl rfl (Nat.le_of_ble_eq_true rfl) (tX0_passage_no l X d σ τ (c := 2) (k := ((k))) (z := (z)) (b := true) (hc := rfl) (n := n) (hV := hV) (hk := hk) (q := q) (h := hp)) ?_
  refine lk_k3 ?_
  refine lk_cast (pc' := 70) (S' := [lk_vi (-2000002)]) rfl rfl rfl ?_
  refine lk_istore (L' := [(0, lk_vr 0 0), (1, lk_vi (nI (b))), (2, lk_vi 1), (3, lk_vi (nI ((k)))), (4, lk_vi (-2000002))]) dX8_pass_70 (by decide +kernel) rfl ?_
  refine lk_iload dX8_pass_72 rfl ?_
  refine lk_ldc dX8_pass_74 kX8_202 ?_
  refine lk_icmp_eq (tgt := 88) dX8_pass_76 (by decide) (fun hh3 => ?_) (fun hh3 => absurd hh3 (by intro q7; exact q7 rfl))
  refine lk_iload dX8_pass_88 rfl ?_
  refine lk_iret .int dX8_pass_90 rfl rfl ?_
  rw [hQ]
  exact ⟨by first | rfl | (simp [*]; done) | (simp_all; done) | grind, by first | rfl | (simp [*]; done), rfl⟩

set_option maxHeartbeats 1000000 in
set_option maxRecDepth 100000 in
theorem tX8_pass_none_dn (l : Launch) (X : lk_G) (d : Nat) (σ : lk_N) (τ : lk_T) (n : Nat) (hV : lk_cok (σ 2) n) (nf b : Nat) (hn : σ 11 5 0 = nI nf) (hb : b < nf) (hn12 : nf ≤ 12) (hu : σ 11 3 b = 0) (hr : σ 11 4 b = nI 0) : lk_Mt l X mX8_pass (d + 3) [lk_vr 0 0, lk_vi (nI (b))] σ τ (fun rr σ1 τ1 => rr = some (lk_vi (-2000001)) ∧ σ1 = σ ∧ τ1 = τ) := by
  refine lk_met (L := [(0, lk_vr 0 0), (1, lk_vi (nI (b)))]) (by decide +kernel) (Nat.le_of_ble_eq_true rfl) rfl ?_
  obtain ⟨Q, hQ⟩ : ∃ Q : lk_Q, Q = fun rr σ1 τ1 => rr = some (lk_vi (-2000001)) ∧ σ1 = σ ∧ τ1 = τ := ⟨_, rfl⟩
  rw [← hQ]
  refine lk_aload_n dX8_pass_0 rfl rfl ?_
  refine lk_getO (f := 1) (o' := 11) dX8_pass_1 rfl fX8_21 (by decide) (by decide) rfl ?_
  refine lk_iload_n dX8_pass_4 rfl rfl ?_
  refine lk_callV (o := 11) (as := [lk_vi (nI (b))]) (S := []) dX8_pass_5 rfl vX2_has rfl lX8_164 rfl rfl (Nat.le_of_ble_eq_true rfl) (tX2_has_in l X (d + 2) σ τ (f := 11) (b := (b)) (hf := rfl) (n := nf) (hn := hn) (hb := hb) (hn22 := by omega)) ?_
  refine lk_k3 ?_
  refine lk_cast (pc' := 8) (S' := [lk_vi 1]) rfl rfl rfl ?_
  refine lk_if_ne (tgt := 14) dX8_pass_8 (by decide) (fun hh1 => ?_) (fun hh1 => absurd hh1 (by decide))
  refine lk_aload_n dX8_pass_14 rfl rfl ?_
  refine lk_getO (f := 1) (o' := 11) dX8_pass_15 rfl fX8_21 (by decide) (by decide) rfl ?_
  refine lk_getR (f := 3) dX8_pass_18 rfl fX8_182 (by decide) (by decide) ?_
  refine lk_iload_n dX8_pass_21 rfl rfl ?_
  refine lk_zaldN (f := 3) (i := b) dX8_pass_22 rfl (by decide) rfl (by omega) (by decide) ?_
  refine lk_eqtop (y := 0) hu ?_
  refine lk_istore_n (L' := [(0, lk_vr 0 0), (1, lk_vi (nI (b))), (2, lk_vi 0)]) dX8_pass_23 rfl (by decide +kernel) rfl ?_
  refine lk_aload_n dX8_pass_24 rfl rfl ?_
  refine lk_getO (f := 1) (o' := 11) dX8_pass_25 rfl fX8_21 (by decide) (by decide) rfl ?_
  refine lk_getR (f := 4) dX8_pass_28 rfl fX8_187 (by decide) (by decide) ?_
  refine lk_iload_n dX8_pass_31 rfl rfl ?_
  refine lk_ialdN (f := 4) (i := b) dX8_pass_32 rfl (by decide) rfl (by omega) (by decide) ?_
  refine lk_eqtop (y := 0) hr ?_
  refine lk_iload_n dX8_pass_33 rfl rfl ?_
  refine lk_callS (as := [lk_vi 0, lk_vi 0]) (S := []) dX8_pass_34 rfl vX0_lockFrom rfl lX8_190 (Nat.le_of_ble_eq_true rfl) (tX0_lockFrom_dn l X (d + 2) σ τ (r := (0)) ) ?_
  refine lk_k3 ?_
  refine lk_cast (pc' := 37) (S' := [lk_vi (nI ((0)) - 1)]) rfl rfl rfl ?_
  refine lk_istore_n (L' := [(0, lk_vr 0 0), (1, lk_vi (nI (b))), (2, lk_vi 0), (3, lk_vi (nI ((0)) - 1))]) dX8_pass_37 rfl (by decide +kernel) rfl ?_
  refine lk_aload_n dX8_pass_38 rfl rfl ?_
  refine lk_getO (f := 0) (o' := 2) dX8_pass_39 rfl fX8_14 (by decide) (by decide) rfl ?_
  refine lk_iload_n dX8_pass_42 rfl rfl ?_
  refine lk_callV (o := 2) (as := [lk_vi (nI ((0)) - 1)]) (S := []) dX8_pass_43 rfl vX0_hasLock rfl lX8_79 rfl rfl (Nat.le_of_ble_eq_true rfl) (tX0_hasLock_out l X (d + 2) σ τ (c := 2) (k := (nI ((0)) - 1)) (hc := rfl) (hk := Or.inl (by decide))) ?_
  refine lk_k3 ?_
  refine lk_cast (pc' := 46) (S' := [lk_vi 0]) rfl rfl rfl ?_
  refine lk_if_ne (tgt := 52) dX8_pass_46 (by decide) (fun hh2 => absurd hh2 (by decide)) (fun hh2 => ?_)
  refine lk_ldc dX8_pass_49 kX8_194 ?_
  refine lk_iret .int dX8_pass_51 rfl rfl ?_
  rw [hQ]
  exact ⟨by first | rfl | (simp [*]; done) | (simp_all; done) | grind, by first | rfl | (simp [*]; done), rfl⟩

set_option maxHeartbeats 1000000 in
set_option maxRecDepth 100000 in
theorem tX8_pass_ok_dn (l : Launch) (X : lk_G) (d : Nat) (σ : lk_N) (τ : lk_T) (n : Nat) (hV : lk_cok (σ 2) n) (nf b : Nat) (hn : σ 11 5 0 = nI nf) (hb : b < nf) (hn12 : nf ≤ 12) (k : Nat) (hk : k < n) (z : Int32) (hu : σ 11 3 b = 0) (hr : σ 11 4 b = nI (k + 1)) (hs : σ 11 1 b = z) (hz : 0 ≤ z.toInt) (hz9 : z.toInt ≤ 9) (V : lk_O) (hp : lk_pas (σ 2) k false z = .inl V) : lk_Mt l X mX8_pass (d + 3) [lk_vr 0 0, lk_vi (nI (b))] σ τ (fun rr σ1 τ1 => rr = some (lk_vi (σ 2 6 (k + 1) - V 6 (k + 1))) ∧ σ1 = lk_up (lk_s2 σ 2 V (lk_tad (σ 3) (σ 2 6 (k + 1) - V 6 (k + 1)))) 11 4 b (σ 11 4 b + (0 - 1)) ∧ τ1 = τ) := by
  refine lk_met (L := [(0, lk_vr 0 0), (1, lk_vi (nI (b)))]) (by decide +kernel) (Nat.le_of_ble_eq_true rfl) rfl ?_
  obtain ⟨Q, hQ⟩ : ∃ Q : lk_Q, Q = fun rr σ1 τ1 => rr = some (lk_vi (σ 2 6 (k + 1) - V 6 (k + 1))) ∧ σ1 = lk_up (lk_s2 σ 2 V (lk_tad (σ 3) (σ 2 6 (k + 1) - V 6 (k + 1)))) 11 4 b (σ 11 4 b + (0 - 1)) ∧ τ1 = τ := ⟨_, rfl⟩
  rw [← hQ]
  refine lk_aload_n dX8_pass_0 rfl rfl ?_
  refine lk_getO (f := 1) (o' := 11) dX8_pass_1 rfl fX8_21 (by decide) (by decide) rfl ?_
  refine lk_iload_n dX8_pass_4 rfl rfl ?_
  refine lk_callV (o := 11) (as := [lk_vi (nI (b))]) (S := []) dX8_pass_5 rfl vX2_has rfl lX8_164 rfl rfl (Nat.le_of_ble_eq_true rfl) (tX2_has_in l X (d + 2) σ τ (f := 11) (b := (b)) (hf := rfl) (n := nf) (hn := hn) (hb := hb) (hn22 := by omega)) ?_
  refine lk_k3 ?_
  refine lk_cast (pc' := 8) (S' := [lk_vi 1]) rfl rfl rfl ?_
  refine lk_if_ne (tgt := 14) dX8_pass_8 (by decide) (fun hh1 => ?_) (fun hh1 => absurd hh1 (by decide))
  refine lk_aload_n dX8_pass_14 rfl rfl ?_
  refine lk_getO (f := 1) (o' := 11) dX8_pass_15 rfl fX8_21 (by decide) (by decide) rfl ?_
  refine lk_getR (f := 3) dX8_pass_18 rfl fX8_182 (by decide) (by decide) ?_
  refine lk_iload_n dX8_pass_21 rfl rfl ?_
  refine lk_zaldN (f := 3) (i := b) dX8_pass_22 rfl (by decide) rfl (by omega) (by decide) ?_
  refine lk_eqtop (y := 0) hu ?_
  refine lk_istore_n (L' := [(0, lk_vr 0 0), (1, lk_vi (nI (b))), (2, lk_vi 0)]) dX8_pass_23 rfl (by decide +kernel) rfl ?_
  refine lk_aload_n dX8_pass_24 rfl rfl ?_
  refine lk_getO (f := 1) (o' := 11) dX8_pass_25 rfl fX8_21 (by decide) (by decide) rfl ?_
  refine lk_getR (f := 4) dX8_pass_28 rfl fX8_187 (by decide) (by decide) ?_
  refine lk_iload_n dX8_pass_31 rfl rfl ?_
  refine lk_ialdN (f := 4) (i := b) dX8_pass_32 rfl (by decide) rfl (by omega) (by decide) ?_
  refine lk_eqtop (y := (nI (k + 1))) hr ?_
  refine lk_iload_n dX8_pass_33 rfl rfl ?_
  refine lk_callS (as := [lk_vi (nI (k + 1)), lk_vi 0]) (S := []) dX8_pass_34 rfl vX0_lockFrom rfl lX8_190 (Nat.le_of_ble_eq_true rfl) (tX0_lockFrom_dn l X (d + 2) σ τ (r := (k + 1)) ) ?_
  refine lk_k3 ?_
  refine lk_cast (pc' := 37) (S' := [lk_vi (nI ((k + 1)) - 1)]) rfl rfl rfl ?_
  refine lk_eqtop (y := (nI (k))) (nI_pred k) ?_
  refine lk_istore_n (L' := [(0, lk_vr 0 0), (1, lk_vi (nI (b))), (2, lk_vi 0), (3, lk_vi (nI (k)))]) dX8_pass_37 rfl (by decide +kernel) rfl ?_
  refine lk_aload_n dX8_pass_38 rfl rfl ?_
  refine lk_getO (f := 0) (o' := 2) dX8_pass_39 rfl fX8_14 (by decide) (by decide) rfl ?_
  refine lk_iload_n dX8_pass_42 rfl rfl ?_
  refine lk_callV (o := 2) (as := [lk_vi (nI (k))]) (S := []) dX8_pass_43 rfl vX0_hasLock rfl lX8_79 rfl rfl (Nat.le_of_ble_eq_true rfl) (tX0_hasLock_in l X (d + 2) σ τ (c := 2) (k := (k)) (hc := rfl) (n := n) (hn := hV.1) (hk := hk) (hn6 := hV.2.2.1)) ?_
  refine lk_k3 ?_
  refine lk_cast (pc' := 46) (S' := [lk_vi 1]) rfl rfl rfl ?_
  refine lk_if_ne (tgt := 52) dX8_pass_46 (by decide) (fun hh2 => ?_) (fun hh2 => absurd hh2 (by decide))
  refine lk_aload_n dX8_pass_52 rfl rfl ?_
  refine lk_getO (f := 0) (o' := 2) dX8_pass_53 rfl fX8_14 (by decide) (by decide) rfl ?_
  refine lk_iload_n dX8_pass_56 rfl rfl ?_
  refine lk_iload_n dX8_pass_57 rfl rfl ?_
  refine lk_aload_n dX8_pass_58 rfl rfl ?_
  refine lk_getO (f := 1) (o' := 11) dX8_pass_59 rfl fX8_21 (by decide) (by decide) rfl ?_
  refine lk_getR (f := 1) dX8_pass_62 rfl fX8_195 (by decide) (by decide) ?_
  refine lk_iload_n dX8_pass_65 rfl rfl ?_
  refine lk_ialdN (f := 1) (i := b) dX8_pass_66 rfl (by decide) rfl (by omega) (by decide) ?_
  refine lk_eqtop (y := (z)) hs ?_
  refine lk_callV (o := 2) (as := [lk_vi (nI (k)), lk_vi 0, lk_vi (z)]) (S := []) dX8_pass_67 rfl vX0_passage rfl lX8_198 rfl rfl (Nat.le_of_ble_eq_true rfl) (tX0_passage_ok l X d σ τ (c := 2) (k := (k)) (z := (z)) (b := false) (hc := rfl) (n := n) (hV := hV) (hk := hk) (V := V) (h := hp)) ?_
  refine lk_k3 ?_
  refine lk_cast (pc' := 70) (S' := [lk_vi (σ 2 6 ((k) + 1) - V 6 ((k) + 1))]) rfl rfl rfl ?_
  refine lk_istore (L' := [(0, lk_vr 0 0), (1, lk_vi (nI (b))), (2, lk_vi 0), (3, lk_vi (nI (k))), (4, lk_vi (σ 2 6 ((k) + 1) - V 6 ((k) + 1)))]) dX8_pass_70 (by decide +kernel) rfl ?_
  refine lk_iload dX8_pass_72 rfl ?_
  refine lk_ldc dX8_pass_74 kX8_202 ?_
  refine lk_icmp_eq (tgt := 88) dX8_pass_76 (by decide) (fun hh3 => absurd hh3 (lk_sp_ne (lk_pas_ok hp (hV.2.2.2 k (Nat.lt_of_lt_of_le hk hV.2.2.1)) hz hz9).2.2.1)) (fun hh3 => ?_)
  refine lk_aload_n dX8_pass_79 rfl rfl ?_
  refine lk_getO (f := 1) (o' := 11) dX8_pass_80 rfl fX8_21 (by decide) (by decide) rfl ?_
  refine lk_iload_n dX8_pass_83 rfl rfl ?_
  refine lk_iconst (v := 1) dX8_pass_84 (by decide) ?_
  refine lk_callV (o := 11) (as := [lk_vi (nI (b)), lk_vi 1]) (S := []) dX8_pass_85 rfl vX2_moveOn rfl lX8_203 rfl rfl (Nat.le_of_ble_eq_true rfl) (tX2_moveOn l X (d + 1) (lk_s2 σ 2 V (lk_tad (σ (2 + 1)) (σ 2 6 ((k) + 1) - V 6 ((k) + 1)))) τ (f := 11) (b := (b)) (r := 1) (hf := rfl) (n := nf) (hn := by rw [lk_s2_ne (by decide) (by decide)]; exact hn) (hb := hb) (hn22 := by omega)) ?_
  refine lk_k3 ?_
  refine lk_cast (pc' := 88) (S' := []) rfl rfl rfl ?_
  refine lk_iload dX8_pass_88 rfl ?_
  refine lk_iret .int dX8_pass_90 rfl rfl ?_
  rw [hQ]
  refine ⟨rfl, ?_, rfl⟩
  have h2 : (lk_s2 σ 2 V (lk_tad (σ 3) (σ 2 6 (k + 1) - V 6 (k + 1)))) 11 = σ 11 := lk_s2_ne (by decide) (by decide)
  simp only [h2, hu]
  rfl

set_option maxHeartbeats 1000000 in
set_option maxRecDepth 100000 in
theorem tX8_pass_bar_dn (l : Launch) (X : lk_G) (d : Nat) (σ : lk_N) (τ : lk_T) (n : Nat) (hV : lk_cok (σ 2) n) (nf b : Nat) (hn : σ 11 5 0 = nI nf) (hb : b < nf) (hn12 : nf ≤ 12) (k : Nat) (hk : k < n) (z : Int32) (hu : σ 11 3 b = 0) (hr : σ 11 4 b = nI (k + 1)) (hs : σ 11 1 b = z) (hz : 0 ≤ z.toInt) (hz9 : z.toInt ≤ 9) (q : Int32 × Nat × Int32) (hp : lk_pas (σ 2) k false z = .inr q) : lk_Mt l X mX8_pass (d + 3) [lk_vr 0 0, lk_vi (nI (b))] σ τ (fun rr σ1 τ1 => rr = some (lk_vi (-2000002)) ∧ σ1 = lk_so σ 4 (lk_kau (σ 4) (nI k) q) ∧ τ1 = τ) := by
  refine lk_met (L := [(0, lk_vr 0 0), (1, lk_vi (nI (b)))]) (by decide +kernel) (Nat.le_of_ble_eq_true rfl) rfl ?_
  obtain ⟨Q, hQ⟩ : ∃ Q : lk_Q, Q = fun rr σ1 τ1 => rr = some (lk_vi (-2000002)) ∧ σ1 = lk_so σ 4 (lk_kau (σ 4) (nI k) q) ∧ τ1 = τ := ⟨_, rfl⟩
  rw [← hQ]
  refine lk_aload_n dX8_pass_0 rfl rfl ?_
  refine lk_getO (f := 1) (o' := 11) dX8_pass_1 rfl fX8_21 (by decide) (by decide) rfl ?_
  refine lk_iload_n dX8_pass_4 rfl rfl ?_
  refine lk_callV (o := 11) (as := [lk_vi (nI (b))]) (S := []) dX8_pass_5 rfl vX2_has rfl lX8_164 rfl rfl (Nat.le_of_ble_eq_true rfl) (tX2_has_in l X (d + 2) σ τ (f := 11) (b := (b)) (hf := rfl) (n := nf) (hn := hn) (hb := hb) (hn22 := by omega)) ?_
  refine lk_k3 ?_
  refine lk_cast (pc' := 8) (S' := [lk_vi 1]) rfl rfl rfl ?_
  refine lk_if_ne (tgt := 14) dX8_pass_8 (by decide) (fun hh1 => ?_) (fun hh1 => absurd hh1 (by decide))
  refine lk_aload_n dX8_pass_14 rfl rfl ?_
  refine lk_getO (f := 1) (o' := 11) dX8_pass_15 rfl fX8_21 (by decide) (by decide) rfl ?_
  refine lk_getR (f := 3) dX8_pass_18 rfl fX8_182 (by decide) (by decide) ?_
  refine lk_iload_n dX8_pass_21 rfl rfl ?_
  refine lk_zaldN (f := 3) (i := b) dX8_pass_22 rfl (by decide) rfl (by omega) (by decide) ?_
  refine lk_eqtop (y := 0) hu ?_
  refine lk_istore_n (L' := [(0, lk_vr 0 0), (1, lk_vi (nI (b))), (2, lk_vi 0)]) dX8_pass_23 rfl (by decide +kernel) rfl ?_
  refine lk_aload_n dX8_pass_24 rfl rfl ?_
  refine lk_getO (f := 1) (o' := 11) dX8_pass_25 rfl fX8_21 (by decide) (by decide) rfl ?_
  refine lk_getR (f := 4) dX8_pass_28 rfl fX8_187 (by decide) (by decide) ?_
  refine lk_iload_n dX8_pass_31 rfl rfl ?_
  refine lk_ialdN (f := 4) (i := b) dX8_pass_32 rfl (by decide) rfl (by omega) (by decide) ?_
  refine lk_eqtop (y := (nI (k + 1))) hr ?_
  refine lk_iload_n dX8_pass_33 rfl rfl ?_
  refine lk_callS (as := [lk_vi (nI (k + 1)), lk_vi 0]) (S := []) dX8_pass_34 rfl vX0_lockFrom rfl lX8_190 (Nat.le_of_ble_eq_true rfl) (tX0_lockFrom_dn l X (d + 2) σ τ (r := (k + 1)) ) ?_
  refine lk_k3 ?_
  refine lk_cast (pc' := 37) (S' := [lk_vi (nI ((k + 1)) - 1)]) rfl rfl rfl ?_
  refine lk_eqtop (y := (nI (k))) (nI_pred k) ?_
  refine lk_istore_n (L' := [(0, lk_vr 0 0), (1, lk_vi (nI (b))), (2, lk_vi 0), (3, lk_vi (nI (k)))]) dX8_pass_37 rfl (by decide +kernel) rfl ?_
  refine lk_aload_n dX8_pass_38 rfl rfl ?_
  refine lk_getO (f := 0) (o' := 2) dX8_pass_39 rfl fX8_14 (by decide) (by decide) rfl ?_
  refine lk_iload_n dX8_pass_42 rfl rfl ?_
  refine lk_callV (o := 2) (as := [lk_vi (nI (k))]) (S := []) dX8_pass_43 rfl vX0_hasLock rfl lX8_79 rfl rfl (Nat.le_of_ble_eq_true rfl) (tX0_hasLock_in l X (d + 2) σ τ (c := 2) (k := (k)) (hc := rfl) (n := n) (hn := hV.1) (hk := hk) (hn6 := hV.2.2.1)) ?_
  refine lk_k3 ?_
  refine lk_cast (pc' := 46) (S' := [lk_vi 1]) rfl rfl rfl ?_
  refine lk_if_ne (tgt := 52) dX8_pass_46 (by decide) (fun hh2 => ?_) (fun hh2 => absurd hh2 (by decide))
  refine lk_aload_n dX8_pass_52 rfl rfl ?_
  refine lk_getO (f := 0) (o' := 2) dX8_pass_53 rfl fX8_14 (by decide) (by decide) rfl ?_
  refine lk_iload_n dX8_pass_56 rfl rfl ?_
  refine lk_iload_n dX8_pass_57 rfl rfl ?_
  refine lk_aload_n dX8_pass_58 rfl rfl ?_
  refine lk_getO (f := 1) (o' := 11) dX8_pass_59 rfl fX8_21 (by decide) (by decide) rfl ?_
  refine lk_getR (f := 1) dX8_pass_62 rfl fX8_195 (by decide) (by decide) ?_
  refine lk_iload_n dX8_pass_65 rfl rfl ?_
  refine lk_ialdN (f := 1) (i := b) dX8_pass_66 rfl (by decide) rfl (by omega) (by decide) ?_
  refine lk_eqtop (y := (z)) hs ?_
  refine lk_callV (o := 2) (as := [lk_vi (nI (k)), lk_vi 0, lk_vi (z)]) (S := []) dX8_pass_67 rfl vX0_passage rfl lX8_198 rfl rfl (Nat.le_of_ble_eq_true rfl) (tX0_passage_no l X d σ τ (c := 2) (k := (k)) (z := (z)) (b := false) (hc := rfl) (n := n) (hV := hV) (hk := hk) (q := q) (h := hp)) ?_
  refine lk_k3 ?_
  refine lk_cast (pc' := 70) (S' := [lk_vi (-2000002)]) rfl rfl rfl ?_
  refine lk_istore (L' := [(0, lk_vr 0 0), (1, lk_vi (nI (b))), (2, lk_vi 0), (3, lk_vi (nI (k))), (4, lk_vi (-2000002))]) dX8_pass_70 (by decide +kernel) rfl ?_
  refine lk_iload dX8_pass_72 rfl ?_
  refine lk_ldc dX8_pass_74 kX8_202 ?_
  refine lk_icmp_eq (tgt := 88) dX8_pass_76 (by decide) (fun hh3 => ?_) (fun hh3 => absurd hh3 (by intro q7; exact q7 rfl))
  refine lk_iload dX8_pass_88 rfl ?_
  refine lk_iret .int dX8_pass_90 rfl rfl ?_
  rw [hQ]
  exact ⟨by first | rfl | (simp [*]; done) | (simp_all; done) | grind, by first | rfl | (simp [*]; done), rfl⟩

set_option maxHeartbeats 1000000 in
set_option maxRecDepth 100000 in
theorem tX8_through_out (l : Launch) (X : lk_G) (d : Nat) (σ : lk_N) (τ : lk_T) (b : Int32) (hb : b < 0 ∨ σ 11 5 0 ≤ b) : lk_Mt l X mX8_through (d + 4) [lk_vr 0 0, lk_vi (b)] σ τ (fun rr σ1 τ1 => rr = some (lk_vi (-1)) ∧ σ1 = σ ∧ τ1 = τ) := by
  refine lk_met (L := [(0, lk_vr 0 0), (1, lk_vi (b))]) (by decide +kernel) (Nat.le_of_ble_eq_true rfl) rfl ?_
  obtain ⟨Q, hQ⟩ : ∃ Q : lk_Q, Q = fun rr σ1 τ1 => rr = some (lk_vi (-1)) ∧ σ1 = σ ∧ τ1 = τ := ⟨_, rfl⟩
  rw [← hQ]
  refine lk_aload_n dX8_through_0 rfl rfl ?_
  refine lk_getO (f := 1) (o' := 11) dX8_through_1 rfl fX8_21 (by decide) (by decide) rfl ?_
  refine lk_iload_n dX8_through_4 rfl rfl ?_
  refine lk_callV (o := 11) (as := [lk_vi (b)]) (S := []) dX8_through_5 rfl vX2_has rfl lX8_164 rfl rfl (Nat.le_of_ble_eq_true rfl) (tX2_has_out l X (d + 3) σ τ (f := 11) (b := (b)) (hf := rfl) (hb := hb)) ?_
  refine lk_k3 ?_
  refine lk_cast (pc' := 8) (S' := [lk_vi 0]) rfl rfl rfl ?_
  refine lk_if_ne (tgt := 13) dX8_through_8 (by decide) (fun hh1 => absurd hh1 (by decide)) (fun hh1 => ?_)
  refine lk_iconst (v := (-1)) dX8_through_11 (by decide) ?_
  refine lk_iret .int dX8_through_12 rfl rfl ?_
  rw [hQ]
  exact ⟨by first | rfl | (simp [*]; done) | (simp_all; done) | grind, by first | rfl | (simp [*]; done), rfl⟩

set_option maxHeartbeats 1000000 in
set_option maxRecDepth 100000 in
theorem tX8_costs_out (l : Launch) (X : lk_G) (d : Nat) (σ : lk_N) (τ : lk_T) (b : Int32) (hb : b < 0 ∨ σ 11 5 0 ≤ b) : lk_Mt l X mX8_costs (d + 4) [lk_vr 0 0, lk_vi (b)] σ τ (fun rr σ1 τ1 => rr = some (lk_vi (-2000000)) ∧ σ1 = σ ∧ τ1 = τ) := by
  refine lk_met (L := [(0, lk_vr 0 0), (1, lk_vi (b))]) (by decide +kernel) (Nat.le_of_ble_eq_true rfl) rfl ?_
  obtain ⟨Q, hQ⟩ : ∃ Q : lk_Q, Q = fun rr σ1 τ1 => rr = some (lk_vi (-2000000)) ∧ σ1 = σ ∧ τ1 = τ := ⟨_, rfl⟩
  rw [← hQ]
  refine lk_aload_n dX8_costs_0 rfl rfl ?_
  refine lk_getO (f := 1) (o' := 11) dX8_costs_1 rfl fX8_21 (by decide) (by decide) rfl ?_
  refine lk_iload_n dX8_costs_4 rfl rfl ?_
  refine lk_callV (o := 11) (as := [lk_vi (b)]) (S := []) dX8_costs_5 rfl vX2_has rfl lX8_164 rfl rfl (Nat.le_of_ble_eq_true rfl) (tX2_has_out l X (d + 3) σ τ (f := 11) (b := (b)) (hf := rfl) (hb := hb)) ?_
  refine lk_k3 ?_
  refine lk_cast (pc' := 8) (S' := [lk_vi 0]) rfl rfl rfl ?_
  refine lk_if_ne (tgt := 14) dX8_costs_8 (by decide) (fun hh1 => absurd hh1 (by decide)) (fun hh1 => ?_)
  refine lk_ldc dX8_costs_11 kX8_186 ?_
  refine lk_iret .int dX8_costs_13 rfl rfl ?_
  rw [hQ]
  exact ⟨by first | rfl | (simp [*]; done) | (simp_all; done) | grind, by first | rfl | (simp [*]; done), rfl⟩

set_option maxHeartbeats 1000000 in
set_option maxRecDepth 100000 in
theorem tX8_through_up (l : Launch) (X : lk_G) (d : Nat) (σ : lk_N) (τ : lk_T) (n : Nat) (hV : lk_cok (σ 2) n) (nf b : Nat) (hn : σ 11 5 0 = nI nf) (hb : b < nf) (hn12 : nf ≤ 12) (a : Nat) (z : Int32) (hu : σ 11 3 b = 1) (hr : σ 11 4 b = nI a) (ha : a ≤ n) (hs : σ 11 1 b = z) (hz : 0 ≤ z.toInt) (hz9 : z.toInt ≤ 9) : lk_Mt l X mX8_through (d + 4) [lk_vr 0 0, lk_vi (nI (b))] σ τ (fun rr σ1 τ1 => rr = some (lk_vi (nI ((lk_trv true z (lk_lks true a n) (σ 2) (σ 3)).1))) ∧ σ1 = lk_up (lk_yS σ 2 (lk_trv true z (lk_lks true a n) (σ 2) (σ 3)).2) 11 4 b (σ 11 4 b + nI (lk_trv true z (lk_lks true a n) (σ 2) (σ 3)).1) ∧ τ1 = τ) := by
  refine lk_met (L := [(0, lk_vr 0 0), (1, lk_vi (nI (b)))]) (by decide +kernel) (Nat.le_of_ble_eq_true rfl) rfl ?_
  obtain ⟨Q, hQ⟩ : ∃ Q : lk_Q, Q = fun rr σ1 τ1 => rr = some (lk_vi (nI ((lk_trv true z (lk_lks true a n) (σ 2) (σ 3)).1))) ∧ σ1 = lk_up (lk_yS σ 2 (lk_trv true z (lk_lks true a n) (σ 2) (σ 3)).2) 11 4 b (σ 11 4 b + nI (lk_trv true z (lk_lks true a n) (σ 2) (σ 3)).1) ∧ τ1 = τ := ⟨_, rfl⟩
  rw [← hQ]
  refine lk_aload_n dX8_through_0 rfl rfl ?_
  refine lk_getO (f := 1) (o' := 11) dX8_through_1 rfl fX8_21 (by decide) (by decide) rfl ?_
  refine lk_iload_n dX8_through_4 rfl rfl ?_
  refine lk_callV (o := 11) (as := [lk_vi (nI (b))]) (S := []) dX8_through_5 rfl vX2_has rfl lX8_164 rfl rfl (Nat.le_of_ble_eq_true rfl) (tX2_has_in l X (d + 3) σ τ (f := 11) (b := (b)) (hf := rfl) (n := nf) (hn := hn) (hb := hb) (hn22 := by omega)) ?_
  refine lk_k3 ?_
  refine lk_cast (pc' := 8) (S' := [lk_vi 1]) rfl rfl rfl ?_
  refine lk_if_ne (tgt := 13) dX8_through_8 (by decide) (fun hh1 => ?_) (fun hh1 => absurd hh1 (by decide))
  refine lk_aload_n dX8_through_13 rfl rfl ?_
  refine lk_getO (f := 0) (o' := 2) dX8_through_14 rfl fX8_14 (by decide) (by decide) rfl ?_
  refine lk_aload_n dX8_through_17 rfl rfl ?_
  refine lk_getO (f := 1) (o' := 11) dX8_through_18 rfl fX8_21 (by decide) (by decide) rfl ?_
  refine lk_getR (f := 4) dX8_through_21 rfl fX8_187 (by decide) (by decide) ?_
  refine lk_iload_n dX8_through_24 rfl rfl ?_
  refine lk_ialdN (f := 4) (i := b) dX8_through_25 rfl (by decide) rfl (by omega) (by decide) ?_
  refine lk_eqtop (y := (nI (a))) hr ?_
  refine lk_aload_n dX8_through_26 rfl rfl ?_
  refine lk_getO (f := 1) (o' := 11) dX8_through_27 rfl fX8_21 (by decide) (by decide) rfl ?_
  refine lk_getR (f := 3) dX8_through_30 rfl fX8_182 (by decide) (by decide) ?_
  refine lk_iload_n dX8_through_33 rfl rfl ?_
  refine lk_zaldN (f := 3) (i := b) dX8_through_34 rfl (by decide) rfl (by omega) (by decide) ?_
  refine lk_eqtop (y := 1) hu ?_
  refine lk_aload_n dX8_through_35 rfl rfl ?_
  refine lk_getO (f := 1) (o' := 11) dX8_through_36 rfl fX8_21 (by decide) (by decide) rfl ?_
  refine lk_getR (f := 1) dX8_through_39 rfl fX8_195 (by decide) (by decide) ?_
  refine lk_iload_n dX8_through_42 rfl rfl ?_
  refine lk_ialdN (f := 1) (i := b) dX8_through_43 rfl (by decide) rfl (by omega) (by decide) ?_
  refine lk_eqtop (y := (z)) hs ?_
  refine lk_callV (o := 2) (as := [lk_vi (nI (a)), lk_vi 1, lk_vi (z)]) (S := []) dX8_through_44 rfl vX0_travel rfl lX8_207 rfl rfl (Nat.le_of_ble_eq_true rfl) (tX0_travel_up l X d σ τ (c := 2) (a := (a)) (z := (z)) (hc := rfl) (n := n) (hV := hV) (ha := ha) (hz := hz) (hz9 := hz9)) ?_
  refine lk_k3 ?_
  refine lk_cast (pc' := 47) (S' := [lk_vi (nI ((lk_trv true (z) (lk_lks true a n) (σ 2) (σ (2 + 1))).1))]) rfl rfl rfl ?_
  refine lk_istore_n (L' := [(0, lk_vr 0 0), (1, lk_vi (nI (b))), (2, lk_vi (nI ((lk_trv true (z) (lk_lks true a n) (σ 2) (σ (2 + 1))).1)))]) dX8_through_47 rfl (by decide +kernel) rfl ?_
  refine lk_aload_n dX8_through_48 rfl rfl ?_
  refine lk_getO (f := 1) (o' := 11) dX8_through_49 rfl fX8_21 (by decide) (by decide) rfl ?_
  refine lk_iload_n dX8_through_52 rfl rfl ?_
  refine lk_iload_n dX8_through_53 rfl rfl ?_
  refine lk_callV (o := 11) (as := [lk_vi (nI (b)), lk_vi (nI ((lk_trv true (z) (lk_lks true a n) (σ 2) (σ (2 + 1))).1))]) (S := []) dX8_through_54 rfl vX2_moveOn rfl lX8_203 rfl rfl (Nat.le_of_ble_eq_true rfl) (tX2_moveOn l X (d + 2) (lk_yS σ 2 (lk_trv true (z) (lk_lks true a n) (σ 2) (σ (2 + 1))).2) τ (f := 11) (b := (b)) (r := (nI ((lk_trv true (z) (lk_lks true a n) (σ 2) (σ (2 + 1))).1))) (hf := rfl) (n := nf) (hn := by rw [lk_yS_ne (by decide) (by decide) (by decide)]; exact hn) (hb := hb) (hn22 := by omega)) ?_
  refine lk_k3 ?_
  refine lk_cast (pc' := 57) (S' := []) rfl rfl rfl ?_
  refine lk_iload_n dX8_through_57 rfl rfl ?_
  refine lk_iret .int dX8_through_58 rfl rfl ?_
  rw [hQ]
  refine ⟨rfl, ?_, rfl⟩
  have h2 : (lk_yS σ 2 (lk_trv true z (lk_lks true a n) (σ 2) (σ 3)).2) 11 = σ 11 := lk_yS_ne (by decide) (by decide) (by decide)
  simp only [h2, hu]
  rfl

set_option maxHeartbeats 1000000 in
set_option maxRecDepth 100000 in
theorem tX8_costs_up (l : Launch) (X : lk_G) (d : Nat) (σ : lk_N) (τ : lk_T) (n : Nat) (hV : lk_cok (σ 2) n) (nf b : Nat) (hn : σ 11 5 0 = nI nf) (hb : b < nf) (hn12 : nf ≤ 12) (a : Nat) (z : Int32) (hu : σ 11 3 b = 1) (hr : σ 11 4 b = nI a) (ha : a ≤ n) (hs : σ 11 1 b = z) (hz : 0 ≤ z.toInt) (hz9 : z.toInt ≤ 9) (h01 : ∀ k, k < 6 → σ 2 5 k = 0 ∨ σ 2 5 k = 1) : lk_Mt l X mX8_costs (d + 4) [lk_vr 0 0, lk_vi (nI (b))] σ τ (fun rr σ1 τ1 => rr = some (lk_vi (σ 2 6 n - lk_fl (lk_trv true z (lk_lks true a n) (lk_im (σ 2) (σ 8)) (σ 3)).2 6 n)) ∧ σ1 = lk_s3 σ (lk_fl (lk_trv true z (lk_lks true a n) (lk_im (σ 2) (σ 8)) (σ 3)).2) (lk_trv true z (lk_lks true a n) (lk_im (σ 2) (σ 8)) (σ 3)).2.2.2 (lk_fK (σ 10) (lk_trv true z (lk_lks true a n) (lk_im (σ 2) (σ 8)) (σ 3)).2) ∧ τ1 = τ) := by
  refine lk_met (L := [(0, lk_vr 0 0), (1, lk_vi (nI (b)))]) (by decide +kernel) (Nat.le_of_ble_eq_true rfl) rfl ?_
  obtain ⟨Q, hQ⟩ : ∃ Q : lk_Q, Q = fun rr σ1 τ1 => rr = some (lk_vi (σ 2 6 n - lk_fl (lk_trv true z (lk_lks true a n) (lk_im (σ 2) (σ 8)) (σ 3)).2 6 n)) ∧ σ1 = lk_s3 σ (lk_fl (lk_trv true z (lk_lks true a n) (lk_im (σ 2) (σ 8)) (σ 3)).2) (lk_trv true z (lk_lks true a n) (lk_im (σ 2) (σ 8)) (σ 3)).2.2.2 (lk_fK (σ 10) (lk_trv true z (lk_lks true a n) (lk_im (σ 2) (σ 8)) (σ 3)).2) ∧ τ1 = τ := ⟨_, rfl⟩
  rw [← hQ]
  refine lk_aload_n dX8_costs_0 rfl rfl ?_
  refine lk_getO (f := 1) (o' := 11) dX8_costs_1 rfl fX8_21 (by decide) (by decide) rfl ?_
  refine lk_iload_n dX8_costs_4 rfl rfl ?_
  refine lk_callV (o := 11) (as := [lk_vi (nI (b))]) (S := []) dX8_costs_5 rfl vX2_has rfl lX8_164 rfl rfl (Nat.le_of_ble_eq_true rfl) (tX2_has_in l X (d + 3) σ τ (f := 11) (b := (b)) (hf := rfl) (n := nf) (hn := hn) (hb := hb) (hn22 := by omega)) ?_
  refine lk_k3 ?_
  refine lk_cast (pc' := 8) (S' := [lk_vi 1]) rfl rfl rfl ?_
  refine lk_if_ne (tgt := 14) dX8_costs_8 (by decide) (fun hh1 => ?_) (fun hh1 => absurd hh1 (by decide))
  refine lk_aload_n dX8_costs_14 rfl rfl ?_
  refine lk_getO (f := 8) (o' := 8) dX8_costs_15 rfl fX8_38 (by decide) (by decide) rfl ?_
  refine lk_aload_n dX8_costs_18 rfl rfl ?_
  refine lk_getO (f := 0) (o' := 2) dX8_costs_19 rfl fX8_14 (by decide) (by decide) rfl ?_
  refine lk_callV (o := 8) (as := [lk_vr 2 0]) (S := []) dX8_costs_22 rfl vX0_copyFrom rfl lX8_210 rfl rfl (Nat.le_of_ble_eq_true rfl) (tX0_copyFrom l X d σ τ (c := 8) (o := 2) (hc := rfl) (ho := rfl) (hco := by decide) (h01 := h01)) ?_
  refine lk_k3 ?_
  refine lk_cast (pc' := 25) (S' := []) rfl rfl rfl ?_
  refine lk_sg (σ' := lk_s3 σ (lk_im (σ 2) (σ 8)) (σ 3) (σ 10)) (lk_s3_cp0 σ _ _).symm ?_
  refine lk_aload_n dX8_costs_25 rfl rfl ?_
  refine lk_getO (f := 8) (o' := 8) dX8_costs_26 rfl fX8_38 (by decide) (by decide) rfl ?_
  refine lk_aload_n dX8_costs_29 rfl rfl ?_
  refine lk_getO (f := 1) (o' := 11) dX8_costs_30 rfl fX8_21 (by decide) (by decide) rfl ?_
  refine lk_getR (f := 4) dX8_costs_33 rfl fX8_187 (by decide) (by decide) ?_
  refine lk_iload_n dX8_costs_36 rfl rfl ?_
  refine lk_ialdN (f := 4) (i := b) dX8_costs_37 rfl (by decide) rfl (by omega) (by decide) ?_
  refine lk_eqtop (y := (nI (a))) (by rw [lk_s3_ne (by decide) (by decide) (by decide)]; exact hr) ?_
  refine lk_aload_n dX8_costs_38 rfl rfl ?_
  refine lk_getO (f := 1) (o' := 11) dX8_costs_39 rfl fX8_21 (by decide) (by decide) rfl ?_
  refine lk_getR (f := 3) dX8_costs_42 rfl fX8_182 (by decide) (by decide) ?_
  refine lk_iload_n dX8_costs_45 rfl rfl ?_
  refine lk_zaldN (f := 3) (i := b) dX8_costs_46 rfl (by decide) rfl (by omega) (by decide) ?_
  refine lk_eqtop (y := 1) (by rw [lk_s3_ne (by decide) (by decide) (by decide)]; exact hu) ?_
  refine lk_aload_n dX8_costs_47 rfl rfl ?_
  refine lk_getO (f := 1) (o' := 11) dX8_costs_48 rfl fX8_21 (by decide) (by decide) rfl ?_
  refine lk_getR (f := 1) dX8_costs_51 rfl fX8_195 (by decide) (by decide) ?_
  refine lk_iload_n dX8_costs_54 rfl rfl ?_
  refine lk_ialdN (f := 1) (i := b) dX8_costs_55 rfl (by decide) rfl (by omega) (by decide) ?_
  refine lk_eqtop (y := (z)) (by rw [lk_s3_ne (by decide) (by decide) (by decide)]; exact hs) ?_
  refine lk_callV (o := 8) (as := [lk_vi (nI (a)), lk_vi 1, lk_vi (z)]) (S := []) dX8_costs_56 rfl vX0_travel rfl lX8_207 rfl rfl (Nat.le_of_ble_eq_true rfl) (tX0_travel_up l X d (lk_s3 σ (lk_im (σ 2) (σ 8)) (σ 3) (σ 10)) τ (c := 8) (a := (a)) (z := (z)) (hc := rfl) (n := n) (hV := by rw [lk_s3_8]; exact lk_im_cok hV) (ha := ha) (hz := hz) (hz9 := hz9)) ?_
  refine lk_k3 ?_
  refine lk_cast (pc' := 59) (S' := [lk_vi (nI ((lk_trv true (z) (lk_lks true a n) ((lk_s3 σ (lk_im (σ 2) (σ 8)) (σ 3) (σ 10)) 8) ((lk_s3 σ (lk_im (σ 2) (σ 8)) (σ 3) (σ 10)) (8 + 1))).1))]) rfl rfl rfl ?_
  refine lk_sg (σ' := lk_s3 σ (lk_fl (lk_trv true z (lk_lks true a n) (lk_im (σ 2) (σ 8)) (σ 3)).2) (lk_trv true z (lk_lks true a n) (lk_im (σ 2) (σ 8)) (σ 3)).2.2.2 (lk_fK (σ 10) (lk_trv true z (lk_lks true a n) (lk_im (σ 2) (σ 8)) (σ 3)).2)) (by rw [← lk_s3_yS σ (lk_im (σ 2) (σ 8)) (σ 3) (σ 10)]; simp only [Nat.reduceAdd, lk_s3_8, lk_s3_9]) ?_
  refine lk_pop dX8_costs_59 rfl ?_
  refine lk_aload_n dX8_costs_60 rfl rfl ?_
  refine lk_getO (f := 0) (o' := 2) dX8_costs_61 rfl fX8_14 (by decide) (by decide) rfl ?_
  refine lk_callV (o := 2) (as := []) (S := []) dX8_costs_64 rfl vX0_summitWater rfl lX8_213 rfl rfl (Nat.le_of_ble_eq_true rfl) (tX0_summitWater l X (d + 3) (lk_s3 σ (lk_fl (lk_trv true z (lk_lks true a n) (lk_im (σ 2) (σ 8)) (σ 3)).2) (lk_trv true z (lk_lks true a n) (lk_im (σ 2) (σ 8)) (σ 3)).2.2.2 (lk_fK (σ 10) (lk_trv true z (lk_lks true a n) (lk_im (σ 2) (σ 8)) (σ 3)).2)) τ (c := 2) (hc := rfl) (n := n) (hn := by rw [lk_s3_ne (by decide) (by decide) (by decide)]; exact hV.1) (hn6 := hV.2.2.1)) ?_
  refine lk_k3 ?_
  refine lk_cast (pc' := 67) (S' := [lk_vi ((lk_s3 σ (lk_fl (lk_trv true z (lk_lks true a n) (lk_im (σ 2) (σ 8)) (σ 3)).2) (lk_trv true z (lk_lks true a n) (lk_im (σ 2) (σ 8)) (σ 3)).2.2.2 (lk_fK (σ 10) (lk_trv true z (lk_lks true a n) (lk_im (σ 2) (σ 8)) (σ 3)).2)) 2 6 n)]) rfl rfl rfl ?_
  refine lk_eqtop (y := (σ 2 6 n)) (by rw [lk_s3_ne (by decide) (by decide) (by decide)]) ?_
  refine lk_aload_n dX8_costs_67 rfl rfl ?_
  refine lk_getO (f := 8) (o' := 8) dX8_costs_68 rfl fX8_38 (by decide) (by decide) rfl ?_
  refine lk_callV (o := 8) (as := []) (S := [lk_vi (σ 2 6 n)]) dX8_costs_71 rfl vX0_summitWater rfl lX8_213 rfl rfl (Nat.le_of_ble_eq_true rfl) (tX0_summitWater l X (d + 3) (lk_s3 σ (lk_fl (lk_trv true z (lk_lks true a n) (lk_im (σ 2) (σ 8)) (σ 3)).2) (lk_trv true z (lk_lks true a n) (lk_im (σ 2) (σ 8)) (σ 3)).2.2.2 (lk_fK (σ 10) (lk_trv true z (lk_lks true a n) (lk_im (σ 2) (σ 8)) (σ 3)).2)) τ (c := 8) (hc := rfl) (n := n) (hn := by rw [lk_s3_8]; exact (lk_fl_cok (lk_trv_cok hz hz9 _ _ _ (lk_lks_lt ha) (lk_im_cok hV)).1).1) (hn6 := hV.2.2.1)) ?_
  refine lk_k3 ?_
  refine lk_cast (pc' := 74) (S' := [lk_vi ((lk_s3 σ (lk_fl (lk_trv true z (lk_lks true a n) (lk_im (σ 2) (σ 8)) (σ 3)).2) (lk_trv true z (lk_lks true a n) (lk_im (σ 2) (σ 8)) (σ 3)).2.2.2 (lk_fK (σ 10) (lk_trv true z (lk_lks true a n) (lk_im (σ 2) (σ 8)) (σ 3)).2)) 8 6 n), lk_vi (σ 2 6 n)]) rfl rfl rfl ?_
  refine lk_eqtop (y := (lk_fl (lk_trv true z (lk_lks true a n) (lk_im (σ 2) (σ 8)) (σ 3)).2 6 n)) (by rw [lk_s3_8]) ?_
  refine lk_isub dX8_costs_74 ?_
  refine lk_iret .int dX8_costs_75 rfl rfl ?_
  rw [hQ]
  exact ⟨by first | rfl | (simp [*]; done) | (simp_all; done) | grind, by first | rfl | (simp [*]; done), rfl⟩

set_option maxHeartbeats 1000000 in
set_option maxRecDepth 100000 in
theorem tX8_through_dn (l : Launch) (X : lk_G) (d : Nat) (σ : lk_N) (τ : lk_T) (n : Nat) (hV : lk_cok (σ 2) n) (nf b : Nat) (hn : σ 11 5 0 = nI nf) (hb : b < nf) (hn12 : nf ≤ 12) (a : Nat) (z : Int32) (hu : σ 11 3 b = 0) (hr : σ 11 4 b = nI a) (ha : a ≤ n) (hs : σ 11 1 b = z) (hz : 0 ≤ z.toInt) (hz9 : z.toInt ≤ 9) : lk_Mt l X mX8_through (d + 4) [lk_vr 0 0, lk_vi (nI (b))] σ τ (fun rr σ1 τ1 => rr = some (lk_vi (nI ((lk_trv false z (lk_lks false a n) (σ 2) (σ 3)).1))) ∧ σ1 = lk_up (lk_yS σ 2 (lk_trv false z (lk_lks false a n) (σ 2) (σ 3)).2) 11 4 b (σ 11 4 b + (0 - nI (lk_trv false z (lk_lks false a n) (σ 2) (σ 3)).1)) ∧ τ1 = τ) := by
  refine lk_met (L := [(0, lk_vr 0 0), (1, lk_vi (nI (b)))]) (by decide +kernel) (Nat.le_of_ble_eq_true rfl) rfl ?_
  obtain ⟨Q, hQ⟩ : ∃ Q : lk_Q, Q = fun rr σ1 τ1 => rr = some (lk_vi (nI ((lk_trv false z (lk_lks false a n) (σ 2) (σ 3)).1))) ∧ σ1 = lk_up (lk_yS σ 2 (lk_trv false z (lk_lks false a n) (σ 2) (σ 3)).2) 11 4 b (σ 11 4 b + (0 - nI (lk_trv false z (lk_lks false a n) (σ 2) (σ 3)).1)) ∧ τ1 = τ := ⟨_, rfl⟩
  rw [← hQ]
  refine lk_aload_n dX8_through_0 rfl rfl ?_
  refine lk_getO (f := 1) (o' := 11) dX8_through_1 rfl fX8_21 (by decide) (by decide) rfl ?_
  refine lk_iload_n dX8_through_4 rfl rfl ?_
  refine lk_callV (o := 11) (as := [lk_vi (nI (b))]) (S := []) dX8_through_5 rfl vX2_has rfl lX8_164 rfl rfl (Nat.le_of_ble_eq_true rfl) (tX2_has_in l X (d + 3) σ τ (f := 11) (b := (b)) (hf := rfl) (n := nf) (hn := hn) (hb := hb) (hn22 := by omega)) ?_
  refine lk_k3 ?_
  refine lk_cast (pc' := 8) (S' := [lk_vi 1]) rfl rfl rfl ?_
  refine lk_if_ne (tgt := 13) dX8_through_8 (by decide) (fun hh1 => ?_) (fun hh1 => absurd hh1 (by decide))
  refine lk_aload_n dX8_through_13 rfl rfl ?_
  refine lk_getO (f := 0) (o' := 2) dX8_through_14 rfl fX8_14 (by decide) (by decide) rfl ?_
  refine lk_aload_n dX8_through_17 rfl rfl ?_
  refine lk_getO (f := 1) (o' := 11) dX8_through_18 rfl fX8_21 (by decide) (by decide) rfl ?_
  refine lk_getR (f := 4) dX8_through_21 rfl fX8_187 (by decide) (by decide) ?_
  refine lk_iload_n dX8_through_24 rfl rfl ?_
  refine lk_ialdN (f := 4) (i := b) dX8_through_25 rfl (by decide) rfl (by omega) (by decide) ?_
  refine lk_eqtop (y := (nI (a))) hr ?_
  refine lk_aload_n dX8_through_26 rfl rfl ?_
  refine lk_getO (f := 1) (o' := 11) dX8_through_27 rfl fX8_21 (by decide) (by decide) rfl ?_
  refine lk_getR (f := 3) dX8_through_30 rfl fX8_182 (by decide) (by decide) ?_
  refine lk_iload_n dX8_through_33 rfl rfl ?_
  refine lk_zaldN (f := 3) (i := b) dX8_through_34 rfl (by decide) rfl (by omega) (by decide) ?_
  refine lk_eqtop (y := 0) hu ?_
  refine lk_aload_n dX8_through_35 rfl rfl ?_
  refine lk_getO (f := 1) (o' := 11) dX8_through_36 rfl fX8_21 (by decide) (by decide) rfl ?_
  refine lk_getR (f := 1) dX8_through_39 rfl fX8_195 (by decide) (by decide) ?_
  refine lk_iload_n dX8_through_42 rfl rfl ?_
  refine lk_ialdN (f := 1) (i := b) dX8_through_43 rfl (by decide) rfl (by omega) (by decide) ?_
  refine lk_eqtop (y := (z)) hs ?_
  refine lk_callV (o := 2) (as := [lk_vi (nI (a)), lk_vi 0, lk_vi (z)]) (S := []) dX8_through_44 rfl vX0_travel rfl lX8_207 rfl rfl (Nat.le_of_ble_eq_true rfl) (tX0_travel_dn l X d σ τ (c := 2) (a := (a)) (z := (z)) (hc := rfl) (n := n) (hV := hV) (ha := ha) (hz := hz) (hz9 := hz9)) ?_
  refine lk_k3 ?_
  refine lk_cast (pc' := 47) (S' := [lk_vi (nI ((lk_trv false (z) (lk_lks false a n) (σ 2) (σ (2 + 1))).1))]) rfl rfl rfl ?_
  refine lk_istore_n (L' := [(0, lk_vr 0 0), (1, lk_vi (nI (b))), (2, lk_vi (nI ((lk_trv false (z) (lk_lks false a n) (σ 2) (σ (2 + 1))).1)))]) dX8_through_47 rfl (by decide +kernel) rfl ?_
  refine lk_aload_n dX8_through_48 rfl rfl ?_
  refine lk_getO (f := 1) (o' := 11) dX8_through_49 rfl fX8_21 (by decide) (by decide) rfl ?_
  refine lk_iload_n dX8_through_52 rfl rfl ?_
  refine lk_iload_n dX8_through_53 rfl rfl ?_
  refine lk_callV (o := 11) (as := [lk_vi (nI (b)), lk_vi (nI ((lk_trv false (z) (lk_lks false a n) (σ 2) (σ (2 + 1))).1))]) (S := []) dX8_through_54 rfl vX2_moveOn rfl lX8_203 rfl rfl (Nat.le_of_ble_eq_true rfl) (tX2_moveOn l X (d + 2) (lk_yS σ 2 (lk_trv false (z) (lk_lks false a n) (σ 2) (σ (2 + 1))).2) τ (f := 11) (b := (b)) (r := (nI ((lk_trv false (z) (lk_lks false a n) (σ 2) (σ (2 + 1))).1))) (hf := rfl) (n := nf) (hn := by rw [lk_yS_ne (by decide) (by decide) (by decide)]; exact hn) (hb := hb) (hn22 := by omega)) ?_
  refine lk_k3 ?_
  refine lk_cast (pc' := 57) (S' := []) rfl rfl rfl ?_
  refine lk_iload_n dX8_through_57 rfl rfl ?_
  refine lk_iret .int dX8_through_58 rfl rfl ?_
  rw [hQ]
  refine ⟨rfl, ?_, rfl⟩
  have h2 : (lk_yS σ 2 (lk_trv false z (lk_lks false a n) (σ 2) (σ 3)).2) 11 = σ 11 := lk_yS_ne (by decide) (by decide) (by decide)
  simp only [h2, hu]
  rfl

set_option maxHeartbeats 1000000 in
set_option maxRecDepth 100000 in
theorem tX8_costs_dn (l : Launch) (X : lk_G) (d : Nat) (σ : lk_N) (τ : lk_T) (n : Nat) (hV : lk_cok (σ 2) n) (nf b : Nat) (hn : σ 11 5 0 = nI nf) (hb : b < nf) (hn12 : nf ≤ 12) (a : Nat) (z : Int32) (hu : σ 11 3 b = 0) (hr : σ 11 4 b = nI a) (ha : a ≤ n) (hs : σ 11 1 b = z) (hz : 0 ≤ z.toInt) (hz9 : z.toInt ≤ 9) (h01 : ∀ k, k < 6 → σ 2 5 k = 0 ∨ σ 2 5 k = 1) : lk_Mt l X mX8_costs (d + 4) [lk_vr 0 0, lk_vi (nI (b))] σ τ (fun rr σ1 τ1 => rr = some (lk_vi (σ 2 6 n - lk_fl (lk_trv false z (lk_lks false a n) (lk_im (σ 2) (σ 8)) (σ 3)).2 6 n)) ∧ σ1 = lk_s3 σ (lk_fl (lk_trv false z (lk_lks false a n) (lk_im (σ 2) (σ 8)) (σ 3)).2) (lk_trv false z (lk_lks false a n) (lk_im (σ 2) (σ 8)) (σ 3)).2.2.2 (lk_fK (σ 10) (lk_trv false z (lk_lks false a n) (lk_im (σ 2) (σ 8)) (σ 3)).2) ∧ τ1 = τ) := by
  refine lk_met (L := [(0, lk_vr 0 0), (1, lk_vi (nI (b)))]) (by decide +kernel) (Nat.le_of_ble_eq_true rfl) rfl ?_
  obtain ⟨Q, hQ⟩ : ∃ Q : lk_Q, Q = fun rr σ1 τ1 => rr = some (lk_vi (σ 2 6 n - lk_fl (lk_trv false z (lk_lks false a n) (lk_im (σ 2) (σ 8)) (σ 3)).2 6 n)) ∧ σ1 = lk_s3 σ (lk_fl (lk_trv false z (lk_lks false a n) (lk_im (σ 2) (σ 8)) (σ 3)).2) (lk_trv false z (lk_lks false a n) (lk_im (σ 2) (σ 8)) (σ 3)).2.2.2 (lk_fK (σ 10) (lk_trv false z (lk_lks false a n) (lk_im (σ 2) (σ 8)) (σ 3)).2) ∧ τ1 = τ := ⟨_, rfl⟩
  rw [← hQ]
  refine lk_aload_n dX8_costs_0 rfl rfl ?_
  refine lk_getO (f := 1) (o' := 11) dX8_costs_1 rfl fX8_21 (by decide) (by decide) rfl ?_
  refine lk_iload_n dX8_costs_4 rfl rfl ?_
  refine lk_callV (o := 11) (as := [lk_vi (nI (b))]) (S := []) dX8_costs_5 rfl vX2_has rfl lX8_164 rfl rfl (Nat.le_of_ble_eq_true rfl) (tX2_has_in l X (d + 3) σ τ (f := 11) (b := (b)) (hf := rfl) (n := nf) (hn := hn) (hb := hb) (hn22 := by omega)) ?_
  refine lk_k3 ?_
  refine lk_cast (pc' := 8) (S' := [lk_vi 1]) rfl rfl rfl ?_
  refine lk_if_ne (tgt := 14) dX8_costs_8 (by decide) (fun hh1 => ?_) (fun hh1 => absurd hh1 (by decide))
  refine lk_aload_n dX8_costs_14 rfl rfl ?_
  refine lk_getO (f := 8) (o' := 8) dX8_costs_15 rfl fX8_38 (by decide) (by decide) rfl ?_
  refine lk_aload_n dX8_costs_18 rfl rfl ?_
  refine lk_getO (f := 0) (o' := 2) dX8_costs_19 rfl fX8_14 (by decide) (by decide) rfl ?_
  refine lk_callV (o := 8) (as := [lk_vr 2 0]) (S := []) dX8_costs_22 rfl vX0_copyFrom rfl lX8_210 rfl rfl (Nat.le_of_ble_eq_true rfl) (tX0_copyFrom l X d σ τ (c := 8) (o := 2) (hc := rfl) (ho := rfl) (hco := by decide) (h01 := h01)) ?_
  refine lk_k3 ?_
  refine lk_cast (pc' := 25) (S' := []) rfl rfl rfl ?_
  refine lk_sg (σ' := lk_s3 σ (lk_im (σ 2) (σ 8)) (σ 3) (σ 10)) (lk_s3_cp0 σ _ _).symm ?_
  refine lk_aload_n dX8_costs_25 rfl rfl ?_
  refine lk_getO (f := 8) (o' := 8) dX8_costs_26 rfl fX8_38 (by decide) (by decide) rfl ?_
  refine lk_aload_n dX8_costs_29 rfl rfl ?_
  refine lk_getO (f := 1) (o' := 11) dX8_costs_30 rfl fX8_21 (by decide) (by decide) rfl ?_
  refine lk_getR (f := 4) dX8_costs_33 rfl fX8_187 (by decide) (by decide) ?_
  refine lk_iload_n dX8_costs_36 rfl rfl ?_
  refine lk_ialdN (f := 4) (i := b) dX8_costs_37 rfl (by decide) rfl (by omega) (by decide) ?_
  refine lk_eqtop (y := (nI (a))) (by rw [lk_s3_ne (by decide) (by decide) (by decide)]; exact hr) ?_
  refine lk_aload_n dX8_costs_38 rfl rfl ?_
  refine lk_getO (f := 1) (o' := 11) dX8_costs_39 rfl fX8_21 (by decide) (by decide) rfl ?_
  refine lk_getR (f := 3) dX8_costs_42 rfl fX8_182 (by decide) (by decide) ?_
  refine lk_iload_n dX8_costs_45 rfl rfl ?_
  refine lk_zaldN (f := 3) (i := b) dX8_costs_46 rfl (by decide) rfl (by omega) (by decide) ?_
  refine lk_eqtop (y := 0) (by rw [lk_s3_ne (by decide) (by decide) (by decide)]; exact hu) ?_
  refine lk_aload_n dX8_costs_47 rfl rfl ?_
  refine lk_getO (f := 1) (o' := 11) dX8_costs_48 rfl fX8_21 (by decide) (by decide) rfl ?_
  refine lk_getR (f := 1) dX8_costs_51 rfl fX8_195 (by decide) (by decide) ?_
  refine lk_iload_n dX8_costs_54 rfl rfl ?_
  refine lk_ialdN (f := 1) (i := b) dX8_costs_55 rfl (by decide) rfl (by omega) (by decide) ?_
  refine lk_eqtop (y := (z)) (by rw [lk_s3_ne (by decide) (by decide) (by decide)]; exact hs) ?_
  refine lk_callV (o := 8) (as := [lk_vi (nI (a)), lk_vi 0, lk_vi (z)]) (S := []) dX8_costs_56 rfl vX0_travel rfl lX8_207 rfl rfl (Nat.le_of_ble_eq_true rfl) (tX0_travel_dn l X d (lk_s3 σ (lk_im (σ 2) (σ 8)) (σ 3) (σ 10)) τ (c := 8) (a := (a)) (z := (z)) (hc := rfl) (n := n) (hV := by rw [lk_s3_8]; exact lk_im_cok hV) (ha := ha) (hz := hz) (hz9 := hz9)) ?_
  refine lk_k3 ?_
  refine lk_cast (pc' := 59) (S' := [lk_vi (nI ((lk_trv false (z) (lk_lks false a n) ((lk_s3 σ (lk_im (σ 2) (σ 8)) (σ 3) (σ 10)) 8) ((lk_s3 σ (lk_im (σ 2) (σ 8)) (σ 3) (σ 10)) (8 + 1))).1))]) rfl rfl rfl ?_
  refine lk_sg (σ' := lk_s3 σ (lk_fl (lk_trv false z (lk_lks false a n) (lk_im (σ 2) (σ 8)) (σ 3)).2) (lk_trv false z (lk_lks false a n) (lk_im (σ 2) (σ 8)) (σ 3)).2.2.2 (lk_fK (σ 10) (lk_trv false z (lk_lks false a n) (lk_im (σ 2) (σ 8)) (σ 3)).2)) (by rw [← lk_s3_yS σ (lk_im (σ 2) (σ 8)) (σ 3) (σ 10)]; simp only [Nat.reduceAdd, lk_s3_8, lk_s3_9]) ?_
  refine lk_pop dX8_costs_59 rfl ?_
  refine lk_aload_n dX8_costs_60 rfl rfl ?_
  refine lk_getO (f := 0) (o' := 2) dX8_costs_61 rfl fX8_14 (by decide) (by decide) rfl ?_
  refine lk_callV (o := 2) (as := []) (S := []) dX8_costs_64 rfl vX0_summitWater rfl lX8_213 rfl rfl (Nat.le_of_ble_eq_true rfl) (tX0_summitWater l X (d + 3) (lk_s3 σ (lk_fl (lk_trv false z (lk_lks false a n) (lk_im (σ 2) (σ 8)) (σ 3)).2) (lk_trv false z (lk_lks false a n) (lk_im (σ 2) (σ 8)) (σ 3)).2.2.2 (lk_fK (σ 10) (lk_trv false z (lk_lks false a n) (lk_im (σ 2) (σ 8)) (σ 3)).2)) τ (c := 2) (hc := rfl) (n := n) (hn := by rw [lk_s3_ne (by decide) (by decide) (by decide)]; exact hV.1) (hn6 := hV.2.2.1)) ?_
  refine lk_k3 ?_
  refine lk_cast (pc' := 67) (S' := [lk_vi ((lk_s3 σ (lk_fl (lk_trv false z (lk_lks false a n) (lk_im (σ 2) (σ 8)) (σ 3)).2) (lk_trv false z (lk_lks false a n) (lk_im (σ 2) (σ 8)) (σ 3)).2.2.2 (lk_fK (σ 10) (lk_trv false z (lk_lks false a n) (lk_im (σ 2) (σ 8)) (σ 3)).2)) 2 6 n)]) rfl rfl rfl ?_
  refine lk_eqtop (y := (σ 2 6 n)) (by rw [lk_s3_ne (by decide) (by decide) (by decide)]) ?_
  refine lk_aload_n dX8_costs_67 rfl rfl ?_
  refine lk_getO (f := 8) (o' := 8) dX8_costs_68 rfl fX8_38 (by decide) (by decide) rfl ?_
  refine lk_callV (o := 8) (as := []) (S := [lk_vi (σ 2 6 n)]) dX8_costs_71 rfl vX0_summitWater rfl lX8_213 rfl rfl (Nat.le_of_ble_eq_true rfl) (tX0_summitWater l X (d + 3) (lk_s3 σ (lk_fl (lk_trv false z (lk_lks false a n) (lk_im (σ 2) (σ 8)) (σ 3)).2) (lk_trv false z (lk_lks false a n) (lk_im (σ 2) (σ 8)) (σ 3)).2.2.2 (lk_fK (σ 10) (lk_trv false z (lk_lks false a n) (lk_im (σ 2) (σ 8)) (σ 3)).2)) τ (c := 8) (hc := rfl) (n := n) (hn := by rw [lk_s3_8]; exact (lk_fl_cok (lk_trv_cok hz hz9 _ _ _ (lk_lks_lt ha) (lk_im_cok hV)).1).1) (hn6 := hV.2.2.1)) ?_
  refine lk_k3 ?_
  refine lk_cast (pc' := 74) (S' := [lk_vi ((lk_s3 σ (lk_fl (lk_trv false z (lk_lks false a n) (lk_im (σ 2) (σ 8)) (σ 3)).2) (lk_trv false z (lk_lks false a n) (lk_im (σ 2) (σ 8)) (σ 3)).2.2.2 (lk_fK (σ 10) (lk_trv false z (lk_lks false a n) (lk_im (σ 2) (σ 8)) (σ 3)).2)) 8 6 n), lk_vi (σ 2 6 n)]) rfl rfl rfl ?_
  refine lk_eqtop (y := (lk_fl (lk_trv false z (lk_lks false a n) (lk_im (σ 2) (σ 8)) (σ 3)).2 6 n)) (by rw [lk_s3_8]) ?_
  refine lk_isub dX8_costs_74 ?_
  refine lk_iret .int dX8_costs_75 rfl rfl ?_
  rw [hQ]
  exact ⟨by first | rfl | (simp [*]; done) | (simp_all; done) | grind, by first | rfl | (simp [*]; done), rfl⟩
