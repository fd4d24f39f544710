theorem lk_fx_sa {σ W : lk_N} (h : lk_fx [6, 7, 8, 9, 10, 11, 22, 24] σ W) : lk_fx [2, 6, 7, 8, 9, 10, 11, 22, 24] σ W := lk_fx_mo h (fun f hf => List.mem_cons_of_mem _ hf)
theorem lk_fx_lay {σ : lk_N} {V T : lk_O} : lk_fx [2, 6, 7, 8, 9, 10, 11, 22, 24] σ (lk_lay σ V T) := fun o f i hn => by
  simp only [lk_lay, lk_sw]
  rw [if_neg (by rintro ⟨rfl, rfl⟩; exact hn ⟨rfl, by decide⟩)]
theorem lk_lay_2 {σ : lk_N} {V T : lk_O} (j : Nat) : lk_lay σ V T 1 2 j = lk_mw V T (σ 1 0) j := by simp [lk_lay, lk_sw]
theorem lk_fx_2 {σ W : lk_N} (h : lk_fx [6, 7, 8, 9, 10, 11, 22, 24] σ W) (j : Nat) : W 1 2 j = σ 1 2 j := h 1 2 j (by simp)
theorem lk_fx_0 {σ W : lk_N} (h : lk_fx [2, 6, 7, 8, 9, 10, 11, 22, 24] σ W) : W 1 0 = σ 1 0 := funext fun j => h 1 0 j (by simp)
theorem lk_sw_fx {σ W : lk_N} (h : lk_fx [2, 6, 7, 8, 9, 10, 11, 22, 24] σ W) : lk_sw W 1 0 (σ 1 0) = W := by rw [← lk_fx_0 h]; exact lk_sw_self W 1 0
theorem lk_tr4 {u : Int32} : (0 ≤ u ∧ u ≤ 4) ↔ (0 ≤ u ∧ u ≤ 4) := Iff.rfl
theorem lk_dgP_fx {t : Nat} {σ W : lk_N} {c : Nat} {j : Option (Nat × Int32 × Nat × Int32)} (h : lk_dgP t σ W c j) : lk_fx [6, 7, 8, 9, 10, 11, 22, 24] σ W := h.1
theorem lk_dyl_t {n u e : Nat} : ∀ (m a b : Nat) (V T U : lk_O), (lk_dyl n u e m a b V T).1 = (lk_dyl n u e m a b V U).1 ∧ (lk_dyl n u e m a b V T).2.1 = (lk_dyl n u e m a b V U).2.1 ∧ (lk_dyl n u e m a b V T).2.2.1 = (lk_dyl n u e m a b V U).2.2.1
  | 0, _, _, _, _, _ => ⟨rfl, rfl, rfl⟩
  | m + 1, a, b, V, T, U => by
    unfold lk_dyl
    have ht := lk_trv_t (up := lk_way u e a b) (z := 0) (lk_lks (lk_way u e a b) (if lk_way u e a b = true then 0 else n) n) V T U
    rcases hv : lk_trv (lk_way u e a b) 0 (lk_lks (lk_way u e a b) (if lk_way u e a b = true then 0 else n) n) V T with ⟨i, _ | q, V', T'⟩ <;> rcases hw : lk_trv (lk_way u e a b) 0 (lk_lks (lk_way u e a b) (if lk_way u e a b = true then 0 else n) n) V U with ⟨j, _ | r, W', U'⟩ <;> rw [hv, hw] at ht
    · obtain ⟨h1, h2, h3⟩ := ht
      have h1' : i = j := h1
      have h3' : V' = W' := h3
      subst h1' h3'
      have ih := lk_dyl_t (n := n) (u := u) (e := e) m (if lk_way u e a b = true then a + 1 else a) (if lk_way u e a b = true then b else b + 1) V' T' U'
      exact ⟨by show _ + i = _ + i; rw [ih.1], ih.2.1, ih.2.2⟩
    · exact absurd ht.2.1 (by simp)
    · exact absurd ht.2.1 (by simp)
    · exact ht
theorem lk_day_t (n u e : Nat) (V T U : lk_O) : (lk_day V T n u e).1 = (lk_day V U n u e).1 ∧ (lk_day V T n u e).2.1 = (lk_day V U n u e).2.1 ∧ (lk_day V T n u e).2.2.1 = (lk_day V U n u e).2.2.1 := lk_dyl_t _ _ _ _ _ _
theorem lk_fl_t {i j : lk_J} (h : i.1 = j.1) (h2 : i.2.1 = j.2.1) : lk_fl i = lk_fl j := by
  obtain ⟨_ | q, V, T⟩ := i <;> obtain ⟨_ | r, W, U⟩ := j
  · exact h2
  · cases h
  · cases h
  · show lk_ou V 12 0 1 = lk_ou W 12 0 1
    rw [show V = W from h2]
theorem lk_dys_t {n u e : Nat} : ∀ (m : Nat) (V T U : lk_O), (lk_dys n u e m V T).1 = (lk_dys n u e m V U).1
  | 0, _, _, _ => rfl
  | m + 1, V, T, U => by
    unfold lk_dys
    have hd := lk_day_t n u e V T U
    rw [lk_fl_t hd.2.1 hd.2.2]
    exact lk_dys_t m _ _ _
theorem lk_drf_t {n u e : Nat} : ∀ (m i : Nat) (V T U : lk_O), lk_drf n u e m i V T = lk_drf n u e m i V U
  | 0, _, _, _, _ => rfl
  | m + 1, i, V, T, U => by
    unfold lk_drf
    have hd := lk_day_t n u e V T U
    rw [lk_fl_t hd.2.1 hd.2.2, hd.2.1]
    split
    · rfl
    · exact lk_drf_t m _ _ _ _
theorem lk_trv_k {up : Bool} {z : Int32} {n : Nat} {kq : Nat × Int32 × Nat × Int32} : ∀ (ks : List Nat) (V T : lk_O), (∀ k ∈ ks, k < n) → (lk_trv up z ks V T).2.1 = some kq → kq.1 < n
  | [], _, _, _, h => by cases h
  | k :: ks, V, T, hk, h => by
    unfold lk_trv at h
    cases hp : lk_pas V k up z with
    | inr q =>
      rw [hp] at h
      have : (k, q) = kq := by simpa using h
      subst this
      exact hk k List.mem_cons_self
    | inl V' =>
      rw [hp] at h
      exact lk_trv_k ks _ _ (fun a ha => hk a (List.mem_cons_of_mem _ ha)) h
theorem lk_dyl_k {n u e : Nat} {kq : Nat × Int32 × Nat × Int32} : ∀ (m a b : Nat) (V T : lk_O), (lk_dyl n u e m a b V T).2.1 = some kq → kq.1 < n
  | 0, _, _, _, _, h => by cases h
  | m + 1, a, b, V, T, h => by
    unfold lk_dyl at h
    rcases hv : lk_trv (lk_way u e a b) 0 (lk_lks (lk_way u e a b) (if lk_way u e a b = true then 0 else n) n) V T with ⟨i, _ | q, V', T'⟩ <;> rw [hv] at h
    · exact lk_dyl_k m _ _ V' T' h
    · have hq : q = kq := by simpa using h
      subst hq
      exact lk_trv_k (up := lk_way u e a b) (z := 0) (lk_lks (lk_way u e a b) (if lk_way u e a b = true then 0 else n) n) V T (lk_lks_lt (by split <;> omega)) (by rw [hv])
theorem lk_bigk {n u e : Nat} {V T : lk_O} {kq : Nat × Int32 × Nat × Int32} (hn : n ≤ 6) (ha : lk_all V n) (h : (lk_day V T n u e).2.1 = some kq) : kq.1 < 2147483648 := by
  have := lk_dyl_k _ _ _ _ _ h
  omega
theorem lk_lt3 {x : Int32} (h : x.toInt ≤ 3) (h3 : ¬ x = 3) : x < 3 := by
  apply Int32.lt_iff_toInt_lt.mpr
  rw [show (3 : Int32).toInt = 3 from rfl]
  rcases (show x.toInt = 3 ∨ x.toInt < 3 by omega) with e | e
  · exact absurd (Int32.toInt_inj.mp e) h3
  · exact e
theorem lk_all_pon {V : lk_O} {n k : Nat} (h : lk_all V n) (hk : k < n) (h3 : V 3 k < 3) (hr : V 5 k = 0 ∧ V 4 k = 0) : lk_all (lk_ou V 3 k (V 3 k + 1)) n :=
  ⟨lk_ou_cok h.1 hk h3 hr, lk_rok_ou h.2.1 (by decide), ⟨fun r h7 => h.2.2.1 r h7, h.2.2.2.1, fun r h7 => h.2.2.2.2 r h7⟩⟩
theorem lk_one {m : Nat} (h : 1 ≤ m) (h2 : m ≤ 20) : (1 : Int32) ≤ nI m := nI_le (a := 1) h (by omega)
theorem lk_all_dys {n u e : Nat} : ∀ (m : Nat) (V T : lk_O), lk_all V n → lk_all (lk_dys n u e m V T).1 n
  | 0, V, T, h => h
  | m + 1, V, T, h => lk_all_dys m _ _ (lk_all_fl (lk_all_day h))
set_option maxHeartbeats 1000000 in
set_option maxRecDepth 100000 in
theorem tX9_isTraffic (l : Launch) (X : lk_G) (d : Nat) (σ : lk_N) (τ : lk_T) (u e : Int32) : lk_Mt l X mX9_isTraffic (d + 1) [lk_vi (u), lk_vi (e)] σ τ (fun rr σ1 τ1 => rr = some (lk_vi (if (0 ≤ u ∧ u ≤ 4) ∧ (0 ≤ e ∧ e ≤ 4) then 1 else 0)) ∧ σ1 = σ ∧ τ1 = τ) := by
  refine lk_met (L := [(0, lk_vi (u)), (1, lk_vi (e))]) (by decide +kernel) (Nat.le_of_ble_eq_true rfl) rfl ?_
  obtain ⟨Q, hQ⟩ : ∃ Q : lk_Q, Q = fun rr σ1 τ1 => rr = some (lk_vi (if (0 ≤ u ∧ u ≤ 4) ∧ (0 ≤ e ∧ e ≤ 4) then 1 else 0)) ∧ σ1 = σ ∧ τ1 = τ := ⟨_, rfl⟩
  rw [← hQ]
  refine lk_iload_n dX9_isTraffic_0 rfl rfl ?_
  refine lk_iconst (v := 0) dX9_isTraffic_1 (by decide) ?_
  refine lk_iconst (v := 4) dX9_isTraffic_2 (by decide) ?_
  refine lk_callS (as := [lk_vi (u), lk_vi 0, lk_vi 4]) (S := []) dX9_isTraffic_3 rfl vX9_within rfl lX9_46 (Nat.le_of_ble_eq_true rfl) (tX9_within l X d σ τ (v := (u)) (a := (0 : Int32)) (b := (4 : Int32)) ) ?_
  refine lk_k3 ?_
  refine lk_cast (pc' := 6) (S' := [lk_vi (if (0 : Int32) ≤ (u) ∧ (u) ≤ (4 : Int32) then 1 else 0)]) rfl rfl rfl ?_
  refine lk_if_eqB (tgt := 22) dX9_isTraffic_6 (by decide) (fun hh1 => ?_) (fun hh1 => ?_)
  ·
    refine lk_iconst (v := 0) dX9_isTraffic_22 (by decide) ?_
    refine lk_iret .boolean dX9_isTraffic_23 rfl rfl ?_
    rw [hQ]
    exact ⟨by first | rfl | (simp [*]; done) | (simp_all; done) | grind, by first | rfl | (simp [*]; done), rfl⟩
  ·
    refine lk_iload_n dX9_isTraffic_9 rfl rfl ?_
    refine lk_iconst (v := 0) dX9_isTraffic_10 (by decide) ?_
    refine lk_iconst (v := 4) dX9_isTraffic_11 (by decide) ?_
    refine lk_callS (as := [lk_vi (e), lk_vi 0, lk_vi 4]) (S := []) dX9_isTraffic_12 rfl vX9_within rfl lX9_46 (Nat.le_of_ble_eq_true rfl) (tX9_within l X d σ τ (v := (e)) (a := (0 : Int32)) (b := (4 : Int32)) ) ?_
    refine lk_k3 ?_
    refine lk_cast (pc' := 15) (S' := [lk_vi (if (0 : Int32) ≤ (e) ∧ (e) ≤ (4 : Int32) then 1 else 0)]) rfl rfl rfl ?_
    refine lk_if_eqB (tgt := 22) dX9_isTraffic_15 (by decide) (fun hh2 => ?_) (fun hh2 => ?_)
    ·
      refine lk_iconst (v := 0) dX9_isTraffic_22 (by decide) ?_
      refine lk_iret .boolean dX9_isTraffic_23 rfl rfl ?_
      rw [hQ]
      exact ⟨by first | rfl | (simp [*]; done) | (simp_all; done) | grind, by first | rfl | (simp [*]; done), rfl⟩
    ·
      refine lk_iconst (v := 1) dX9_isTraffic_18 (by decide) ?_
      refine lk_goto (tgt := 23) dX9_isTraffic_19 (by decide) ?_
      refine lk_iret .boolean dX9_isTraffic_23 rfl rfl ?_
      rw [hQ]
      exact ⟨by first | rfl | (simp [*]; done) | (simp_all; done) | grind, by first | rfl | (simp [*]; done), rfl⟩

set_option maxHeartbeats 1000000 in
set_option maxRecDepth 100000 in
theorem tX9_day_bad (l : Launch) (X : lk_G) (d : Nat) (σ : lk_N) (τ : lk_T) (u e : Int32) (h : ¬ ((0 ≤ u ∧ u ≤ 4) ∧ (0 ≤ e ∧ e ≤ 4))) : lk_Mt l X mX9_day (d + 6) [lk_vr 1 0, lk_vi (u), lk_vi (e)] σ τ (fun rr σ1 τ1 => rr = some (lk_vi (-1)) ∧ σ1 = σ ∧ τ1 = τ) := by
  refine lk_met (L := [(0, lk_vr 1 0), (1, lk_vi (u)), (2, lk_vi (e))]) (by decide +kernel) (Nat.le_of_ble_eq_true rfl) rfl ?_
  obtain ⟨Q, hQ⟩ : ∃ Q : lk_Q, Q = fun rr σ1 τ1 => rr = some (lk_vi (-1)) ∧ σ1 = σ ∧ τ1 = τ := ⟨_, rfl⟩
  rw [← hQ]
  refine lk_iload_n dX9_day_0 rfl rfl ?_
  refine lk_iload_n dX9_day_1 rfl rfl ?_
  refine lk_callS (as := [lk_vi (u), lk_vi (e)]) (S := []) dX9_day_2 rfl vX9_isTraffic rfl lX9_219 (Nat.le_of_ble_eq_true rfl) (tX9_isTraffic l X (d + 4) σ τ (u := (u)) (e := (e)) ) ?_
  refine lk_k3 ?_
  refine lk_cast (pc' := 5) (S' := [lk_vi (if (0 ≤ (u) ∧ (u) ≤ 4) ∧ (0 ≤ (e) ∧ (e) ≤ 4) then 1 else 0)]) rfl rfl rfl ?_
  refine lk_if_neB (tgt := 10) dX9_day_5 (by decide) (fun hh1 => absurd hh1 h) (fun hh1 => ?_)
  refine lk_iconst (v := (-1)) dX9_day_8 (by decide) ?_
  refine lk_iret .int dX9_day_9 rfl rfl ?_
  rw [hQ]
  exact ⟨by first | rfl | (simp [*]; done) | (simp_all; done) | grind, by first | rfl | (simp [*]; done), rfl⟩

set_option maxHeartbeats 1000000 in
set_option maxRecDepth 100000 in
theorem tX9_day_ok (l : Launch) (X : lk_G) (d : Nat) (σ : lk_N) (τ : lk_T) (V T : lk_O) (n u e : Nat) (ha : lk_all V n) (hu : u ≤ 4) (he : e ≤ 4)  : lk_Mt l X mX9_day (d + 6) [lk_vr 1 0, lk_vi (nI (u)), lk_vi (nI (e))] (lk_ms σ V T) τ (fun rr σ1 τ1 => rr = some (lk_vi (nI (lk_day V T n u e).1)) ∧ τ1 = τ ∧ ∃ W : lk_N, σ1 = lk_ms W (lk_day V T n u e).2.2.1 (lk_day V T n u e).2.2.2 ∧ lk_dgP 1 σ W (lk_day V T n u e).1 (lk_day V T n u e).2.1) := by
  refine lk_met (L := [(0, lk_vr 1 0), (1, lk_vi (nI (u))), (2, lk_vi (nI (e)))]) (by decide +kernel) (Nat.le_of_ble_eq_true rfl) rfl ?_
  obtain ⟨Q, hQ⟩ : ∃ Q : lk_Q, Q = fun rr σ1 τ1 => rr = some (lk_vi (nI (lk_day V T n u e).1)) ∧ τ1 = τ ∧ ∃ W : lk_N, σ1 = lk_ms W (lk_day V T n u e).2.2.1 (lk_day V T n u e).2.2.2 ∧ lk_dgP 1 σ W (lk_day V T n u e).1 (lk_day V T n u e).2.1 := ⟨_, rfl⟩
  rw [← hQ]
  refine lk_iload_n dX9_day_0 rfl rfl ?_
  refine lk_iload_n dX9_day_1 rfl rfl ?_
  refine lk_callS (as := [lk_vi (nI (u)), lk_vi (nI (e))]) (S := []) dX9_day_2 rfl vX9_isTraffic rfl lX9_219 (Nat.le_of_ble_eq_true rfl) (tX9_isTraffic l X (d + 4) (lk_ms σ V T) τ (u := (nI (u))) (e := (nI (e))) ) ?_
  refine lk_k3 ?_
  refine lk_cast (pc' := 5) (S' := [lk_vi (if (0 ≤ (nI (u)) ∧ (nI (u)) ≤ 4) ∧ (0 ≤ (nI (e)) ∧ (nI (e)) ≤ 4) then 1 else 0)]) rfl rfl rfl ?_
  refine lk_if_neB (tgt := 10) dX9_day_5 (by decide) (fun hh1 => ?_) (fun hh1 => absurd hh1 (fun q => q ⟨lk_tr hu, lk_tr he⟩))
  refine lk_aload_n dX9_day_10 rfl rfl ?_
  refine lk_iload_n dX9_day_11 rfl rfl ?_
  refine lk_iload_n dX9_day_12 rfl rfl ?_
  refine lk_iconst (v := 1) dX9_day_13 (by decide) ?_
  refine lk_callV (o := 1) (as := [lk_vi (nI (u)), lk_vi (nI (e)), lk_vi 1]) (S := []) dX9_day_14 rfl vX9_dayGoes rfl lX9_222 rfl rfl (Nat.le_of_ble_eq_true rfl) (tX9_dayGoes1 l X d σ τ (u := (u)) (e := (e)) (V := V) (T := T) (n := n) (ha0 := ha) (hu := hu) (he := he)) ?_
  refine lk_k4 (fun W2 hW2 => ?_)
  refine lk_cast (pc' := 17) (S' := []) rfl rfl rfl ?_
  refine lk_sg (σ' := (lk_ms W2 (lk_day V T n u e).2.2.1 (lk_day V T n u e).2.2.2)) rfl ?_
  refine lk_aload_n dX9_day_17 rfl rfl ?_
  refine lk_getIv (v := (nI ((lk_day V T n u e).1))) (f := 22) dX9_day_18 rfl fX9_196 (by decide) (by decide) ((lk_rf (by decide)).trans hW2.2.1) ?_
  refine lk_iret .int dX9_day_21 rfl rfl ?_
  rw [hQ]
  exact ⟨rfl, rfl, W2, rfl, hW2⟩

set_option maxHeartbeats 1000000 in
set_option maxRecDepth 100000 in
theorem tX9_summit (l : Launch) (X : lk_G) (d : Nat) (σ : lk_N) (τ : lk_T) (V T : lk_O) (n u e : Nat) (ha : lk_all V n) (hu : u ≤ 4) (he : e ≤ 4) (m : Nat) (hm : m ≤ 20) : lk_Mt l X mX9_summit (d + 6) [lk_vr 1 0, lk_vi (nI (u)), lk_vi (nI (e)), lk_vi (nI (m))] (lk_ms σ V T) τ (fun rr σ1 τ1 => rr = some (lk_vi ((lk_dys n u e m V T).1 6 n)) ∧ τ1 = τ ∧ ∃ W : lk_N, σ1 = lk_ms W (lk_dys n u e m V T).1 T ∧ (lk_fx [6, 7, 8, 9, 10, 11, 22, 24] σ W ∧ lk_kz σ W none)) := by
  refine lk_met (L := [(0, lk_vr 1 0), (1, lk_vi (nI (u))), (2, lk_vi (nI (e))), (3, lk_vi (nI (m)))]) (by decide +kernel) (Nat.le_of_ble_eq_true rfl) rfl ?_
  obtain ⟨Q, hQ⟩ : ∃ Q : lk_Q, Q = fun rr σ1 τ1 => rr = some (lk_vi ((lk_dys n u e m V T).1 6 n)) ∧ τ1 = τ ∧ ∃ W : lk_N, σ1 = lk_ms W (lk_dys n u e m V T).1 T ∧ (lk_fx [6, 7, 8, 9, 10, 11, 22, 24] σ W ∧ lk_kz σ W none) := ⟨_, rfl⟩
  rw [← hQ]
  have hn6 := ha.1.2.2.1
  refine lk_iconst (v := 0) dX9_summit_0 (by decide) ?_
  refine lk_istore (L' := [(0, lk_vr 1 0), (1, lk_vi (nI (u))), (2, lk_vi (nI (e))), (3, lk_vi (nI (m))), (4, lk_vi 0)]) dX9_summit_1 (by decide +kernel) rfl ?_
  have LP3 : ∀ (fu : Nat) (i : Nat) (W : lk_N) (V1 : lk_O), i ≤ m → lk_all V1 n → lk_fx [6, 7, 8, 9, 10, 11, 22, 24] σ W → lk_kz σ W none → (lk_dys n u e m V T).1 = (lk_dys n u e (m - i) V1 T).1 → m - i < fu → lk_W l X mX9_summit (d + 6) 3 [(0, lk_vr 1 0), (1, lk_vi (nI (u))), (2, lk_vi (nI (e))), (3, lk_vi (nI (m))), (4, lk_vi (nI (i)))] [] (lk_ms W V1 T) τ Q := by
    intro fu
    induction fu with
    | zero => intro i W V1 hi hc hWf hWk hI hfu; exact absurd hfu (by omega)
    | succ fu ih =>
      intro i W V1 hi hc hWf hWk hI hfu
      refine lk_iload dX9_summit_3 rfl ?_
      refine lk_iload_n dX9_summit_5 rfl rfl ?_
      refine lk_icmp_geN (a := i) (b := m) (tgt := 22) dX9_summit_6 (by decide) (by omega) (by omega) (fun hh1 => ?_) (fun hh1 => ?_)
      ·
        refine lk_aload_n dX9_summit_22 rfl rfl ?_
        refine lk_getR (f := 0) dX9_summit_23 rfl fX9_9 (by decide) (by decide) ?_
        refine lk_bipush (v := 24) dX9_summit_26 (by decide) ?_
        refine lk_aload_n dX9_summit_28 rfl rfl ?_
        refine lk_getR (f := 0) dX9_summit_29 rfl fX9_9 (by decide) (by decide) ?_
        refine lk_bipush (v := 53) dX9_summit_32 (by decide) ?_
        refine lk_ialdN (f := 0) (i := 53) dX9_summit_34 rfl (by decide) rfl (by omega) (by decide) ?_
        refine lk_eqtop (y := (nI (n))) ((lk_r0 rfl rfl).trans hc.1.1) ?_
        refine lk_iaddN (a := 24) (b := n) dX9_summit_35 ?_
        refine lk_ialdN (f := 0) (i := 24 + n) dX9_summit_36 rfl (by decide) rfl (by omega) (by decide) ?_
        refine lk_eqtop (y := (V1 6 (n))) (lk_r6 (by omega) (by omega)) ?_
        refine lk_iret .int dX9_summit_37 rfl rfl ?_
        rw [hQ]
        rw [show m - i = 0 by omega] at hI
        have hI2 : (lk_dys n u e m V T).1 = V1 := hI
        rw [hI2]
        exact ⟨rfl, rfl, W, rfl, hWf, hWk⟩
      ·
        refine lk_aload_n dX9_summit_9 rfl rfl ?_
        refine lk_iload_n dX9_summit_10 rfl rfl ?_
        refine lk_iload_n dX9_summit_11 rfl rfl ?_
        refine lk_iconst (v := 0) dX9_summit_12 (by decide) ?_
        refine lk_callV (o := 1) (as := [lk_vi (nI (u)), lk_vi (nI (e)), lk_vi 0]) (S := []) dX9_summit_13 rfl vX9_dayGoes rfl lX9_222 rfl rfl (Nat.le_of_ble_eq_true rfl) (tX9_dayGoes0 l X d W τ (u := (u)) (e := (e)) (V := V1) (T := T) (n := n) (ha0 := hc) (hu := hu) (he := he)) ?_
        refine lk_k4 (fun W2 hW2 => ?_)
        refine lk_cast (pc' := 16) (S' := []) rfl rfl rfl ?_
        refine lk_sg (σ' := (lk_ms W2 (lk_day V1 T n u e).2.2.1 T)) rfl ?_
        refine lk_iincN (a := i) (m := 1) (L' := [(0, lk_vr 1 0), (1, lk_vi (nI (u))), (2, lk_vi (nI (e))), (3, lk_vi (nI (m))), (4, lk_vi (nI (i + 1)))]) dX9_summit_16 rfl rfl (by decide +kernel) rfl ?_
        refine lk_goto (tgt := 3) dX9_summit_19 (by decide) ?_
        rw [show m - i = (m - (i + 1)) + 1 by omega] at hI
        have hI2 : (lk_dys n u e m V T).1 = (lk_dys n u e (m - (i + 1)) (lk_fl (lk_day V1 T n u e).2) T).1 := by rw [hI, lk_dys]; exact lk_dys_t _ _ _ _
        refine lk_sg (σ' := lk_ms W2 (lk_fl (lk_day V1 T n u e).2) T) (lk_ms_fl _ _ _) ?_
        exact ih (i + 1) W2 (lk_fl (lk_day V1 T n u e).2) (by omega) (lk_all_fl (lk_all_day hc)) (lk_fx_tr hWf hW2.1) (lk_kz_no hWk (by simpa using hW2.2.2.2)) hI2 (by omega)
  exact LP3 (m + 1) 0 σ V (by omega) ha (lk_fx_rf _ _) ⟨rfl, rfl⟩ rfl (by omega)

set_option maxHeartbeats 1000000 in
set_option maxRecDepth 100000 in
theorem tX9_dry_bad (l : Launch) (X : lk_G) (d : Nat) (σ : lk_N) (τ : lk_T) (u e w : Int32) (h : ¬ (((0 ≤ u ∧ u ≤ 4) ∧ (0 ≤ e ∧ e ≤ 4)) ∧ 0 ≤ w ∧ w ≤ 1)) : lk_Mt l X mX9_dry (d + 6) [lk_vr 1 0, lk_vi (u), lk_vi (e), lk_vi (w)] σ τ (fun rr σ1 τ1 => rr = some (lk_vi (-1)) ∧ σ1 = σ ∧ τ1 = τ) := by
  refine lk_met (L := [(0, lk_vr 1 0), (1, lk_vi (u)), (2, lk_vi (e)), (3, lk_vi (w))]) (by decide +kernel) (Nat.le_of_ble_eq_true rfl) rfl ?_
  obtain ⟨Q, hQ⟩ : ∃ Q : lk_Q, Q = fun rr σ1 τ1 => rr = some (lk_vi (-1)) ∧ σ1 = σ ∧ τ1 = τ := ⟨_, rfl⟩
  rw [← hQ]
  refine lk_iload_n dX9_dry_0 rfl rfl ?_
  refine lk_iload_n dX9_dry_1 rfl rfl ?_
  refine lk_callS (as := [lk_vi (u), lk_vi (e)]) (S := []) dX9_dry_2 rfl vX9_isTraffic rfl lX9_219 (Nat.le_of_ble_eq_true rfl) (tX9_isTraffic l X (d + 4) σ τ (u := (u)) (e := (e)) ) ?_
  refine lk_k3 ?_
  refine lk_cast (pc' := 5) (S' := [lk_vi (if (0 ≤ (u) ∧ (u) ≤ 4) ∧ (0 ≤ (e) ∧ (e) ≤ 4) then 1 else 0)]) rfl rfl rfl ?_
  refine lk_if_eqB (tgt := 17) dX9_dry_5 (by decide) (fun hh1 => ?_) (fun hh1 => ?_)
  ·
    refine lk_iconst (v := (-1)) dX9_dry_17 (by decide) ?_
    refine lk_iret .int dX9_dry_18 rfl rfl ?_
    rw [hQ]
    exact ⟨by first | rfl | (simp [*]; done) | (simp_all; done) | grind, by first | rfl | (simp [*]; done), rfl⟩
  ·
    refine lk_iload_n dX9_dry_8 rfl rfl ?_
    refine lk_iconst (v := 0) dX9_dry_9 (by decide) ?_
    refine lk_iconst (v := 1) dX9_dry_10 (by decide) ?_
    refine lk_callS (as := [lk_vi (w), lk_vi 0, lk_vi 1]) (S := []) dX9_dry_11 rfl vX9_within rfl lX9_46 (Nat.le_of_ble_eq_true rfl) (tX9_within l X (d + 5) σ τ (v := (w)) (a := (0 : Int32)) (b := (1 : Int32)) ) ?_
    refine lk_k3 ?_
    refine lk_cast (pc' := 14) (S' := [lk_vi (if (0 : Int32) ≤ (w) ∧ (w) ≤ (1 : Int32) then 1 else 0)]) rfl rfl rfl ?_
    refine lk_if_neB (tgt := 19) dX9_dry_14 (by decide) (fun hh2 => ?_) (fun hh2 => ?_)
    ·
      exact absurd ⟨by assumption, by assumption⟩ h
    ·
      refine lk_iconst (v := (-1)) dX9_dry_17 (by decide) ?_
      refine lk_iret .int dX9_dry_18 rfl rfl ?_
      rw [hQ]
      exact ⟨by first | rfl | (simp [*]; done) | (simp_all; done) | grind, by first | rfl | (simp [*]; done), rfl⟩

set_option maxHeartbeats 1000000 in
set_option maxRecDepth 100000 in
theorem tX9_dry_0 (l : Launch) (X : lk_G) (d : Nat) (σ : lk_N) (τ : lk_T) (V T : lk_O) (n u e : Nat) (ha : lk_all V n) (hu : u ≤ 4) (he : e ≤ 4)  : lk_Mt l X mX9_dry (d + 6) [lk_vr 1 0, lk_vi (nI (u)), lk_vi (nI (e)), lk_vi 0] (lk_ms σ V T) τ (fun rr σ1 τ1 => rr = some (lk_vi (match lk_drf n u e 41 0 V T with | some p => nI p.1 | none => -2)) ∧ τ1 = τ ∧ ∃ W : lk_N, σ1 = lk_ms W V T ∧ (lk_fx [2, 6, 7, 8, 9, 10, 11, 22, 24] σ W ∧ lk_kz σ W none)) := by
  refine lk_met (L := [(0, lk_vr 1 0), (1, lk_vi (nI (u))), (2, lk_vi (nI (e))), (3, lk_vi 0)]) (by decide +kernel) (Nat.le_of_ble_eq_true rfl) rfl ?_
  obtain ⟨Q, hQ⟩ : ∃ Q : lk_Q, Q = fun rr σ1 τ1 => rr = some (lk_vi (match lk_drf n u e 41 0 V T with | some p => nI p.1 | none => -2)) ∧ τ1 = τ ∧ ∃ W : lk_N, σ1 = lk_ms W V T ∧ (lk_fx [2, 6, 7, 8, 9, 10, 11, 22, 24] σ W ∧ lk_kz σ W none) := ⟨_, rfl⟩
  rw [← hQ]
  have hn6 := ha.1.2.2.1
  obtain ⟨R, hR⟩ : ∃ R, R = lk_drf n u e 41 0 V T := ⟨_, rfl⟩
  refine lk_iload_n dX9_dry_0 rfl rfl ?_
  refine lk_iload_n dX9_dry_1 rfl rfl ?_
  refine lk_callS (as := [lk_vi (nI (u)), lk_vi (nI (e))]) (S := []) dX9_dry_2 rfl vX9_isTraffic rfl lX9_219 (Nat.le_of_ble_eq_true rfl) (tX9_isTraffic l X (d + 4) (lk_ms σ V T) τ (u := (nI (u))) (e := (nI (e))) ) ?_
  refine lk_k3 ?_
  refine lk_cast (pc' := 5) (S' := [lk_vi (if (0 ≤ (nI (u)) ∧ (nI (u)) ≤ 4) ∧ (0 ≤ (nI (e)) ∧ (nI (e)) ≤ 4) then 1 else 0)]) rfl rfl rfl ?_
  refine lk_if_eqB (tgt := 17) dX9_dry_5 (by decide) (fun hh1 => absurd hh1 (fun q => q ⟨lk_tr hu, lk_tr he⟩)) (fun hh1 => ?_)
  refine lk_iload_n dX9_dry_8 rfl rfl ?_
  refine lk_iconst (v := 0) dX9_dry_9 (by decide) ?_
  refine lk_iconst (v := 1) dX9_dry_10 (by decide) ?_
  refine lk_callS (as := [lk_vi 0, lk_vi 0, lk_vi 1]) (S := []) dX9_dry_11 rfl vX9_within rfl lX9_46 (Nat.le_of_ble_eq_true rfl) (tX9_within l X (d + 5) (lk_ms σ V T) τ (v := (0 : Int32)) (a := (0 : Int32)) (b := (1 : Int32)) ) ?_
  refine lk_k3 ?_
  refine lk_cast (pc' := 14) (S' := [lk_vi (if (0 : Int32) ≤ (0 : Int32) ∧ (0 : Int32) ≤ (1 : Int32) then 1 else 0)]) rfl rfl rfl ?_
  refine lk_if_neB (tgt := 19) dX9_dry_14 (by decide) (fun hh2 => ?_) (fun hh2 => absurd hh2 (fun q => q (by decide)))
  refine lk_aload_n dX9_dry_19 rfl rfl ?_
  refine lk_getR (f := 0) dX9_dry_20 rfl fX9_9 (by decide) (by decide) ?_
  refine lk_aload_n dX9_dry_23 rfl rfl ?_
  refine lk_getR (f := 2) dX9_dry_24 rfl fX9_18 (by decide) (by decide) ?_
  refine lk_callS (as := [lk_vr 1 1, lk_vr 1 3]) (S := []) dX9_dry_27 rfl vX9_pours rfl lX9_105 (Nat.le_of_ble_eq_true rfl) (tX9_pours_02ms l X (d + 5) σ τ (V := V) (T := T) ) ?_
  refine lk_k3 ?_
  refine lk_cast (pc' := 30) (S' := []) rfl rfl rfl ?_
  refine lk_iconst (v := 0) dX9_dry_30 (by decide) ?_
  refine lk_istore (L' := [(0, lk_vr 1 0), (1, lk_vi (nI (u))), (2, lk_vi (nI (e))), (3, lk_vi 0), (4, lk_vi 0)]) dX9_dry_31 (by decide +kernel) rfl ?_
  refine lk_aload_n dX9_dry_33 rfl rfl ?_
  refine lk_bipush (v := (-2)) dX9_dry_34 (by decide) ?_
  refine lk_putI (f := 24) dX9_dry_36 rfl fX9_209 (by decide) (by decide) ?_
  refine lk_sg (σ' := (lk_ms (lk_up (lk_lay σ V T) 1 24 0 (-2)) V T)) (lk_wf (by decide)) ?_
  have LP39 : ∀ (fu : Nat) (i : Nat) (W : lk_N) (V1 : lk_O), i ≤ 41 → lk_all V1 n → lk_fx [2, 6, 7, 8, 9, 10, 11, 22, 24] σ W → lk_kz σ W none → W 1 24 0 = -2 → (∀ j, W 1 2 j = lk_mw V T (σ 1 0) j) → R = lk_drf n u e (41 - i) i V1 T → 41 - i < fu → lk_W l X mX9_dry (d + 6) 39 [(0, lk_vr 1 0), (1, lk_vi (nI (u))), (2, lk_vi (nI (e))), (3, lk_vi 0), (4, lk_vi (nI (i)))] [] (lk_ms W V1 T) τ Q := by
    intro fu
    induction fu with
    | zero => intro i W V1 hi hc hWf hWk hW4 hWl hI hfu; exact absurd hfu (by omega)
    | succ fu ih =>
      intro i W V1 hi hc hWf hWk hW4 hWl hI hfu
      refine lk_iload dX9_dry_39 rfl ?_
      refine lk_bipush (v := 40) dX9_dry_41 (by decide) ?_
      refine lk_icmp_gtN (a := i) (b := 40) (tgt := 68) dX9_dry_43 (by decide) (by omega) (by omega) (fun hh3 => ?_) (fun hh3 => ?_)
      ·
        have hWs := hWf
        refine lk_aload_n dX9_dry_68 rfl rfl ?_
        refine lk_getR (f := 2) dX9_dry_69 rfl fX9_18 (by decide) (by decide) ?_
        refine lk_aload_n dX9_dry_72 rfl rfl ?_
        refine lk_getR (f := 0) dX9_dry_73 rfl fX9_9 (by decide) (by decide) ?_
        refine lk_callS (as := [lk_vr 1 3, lk_vr 1 1]) (S := []) dX9_dry_76 rfl vX9_pours rfl lX9_105 (Nat.le_of_ble_eq_true rfl) (tX9_pours_20ms l X (d + 5) W τ (V := V1) (T := T) (V0 := V) (T0 := T) (R := σ 1 0) (hA := fun j hj => hWl j)) ?_
        refine lk_k3 ?_
        refine lk_cast (pc' := 79) (S' := []) rfl rfl rfl ?_
        refine lk_sg (σ' := (lk_ms W V T)) (by rw [lk_sw_fx hWs]) ?_
        refine lk_aload_n dX9_dry_79 rfl rfl ?_
        refine lk_getIv (v := (-2)) (f := 24) dX9_dry_80 rfl fX9_209 (by decide) (by decide) ((lk_rf (by decide)).trans hW4) ?_
        refine lk_bipush (v := (-2)) dX9_dry_83 (by decide) ?_
        refine lk_icmp_ne (tgt := 93) dX9_dry_85 (by decide) (fun hh4 => absurd hh4 (fun q => q rfl)) (fun hh4 => ?_)
        refine lk_bipush (v := (-2)) dX9_dry_88 (by decide) ?_
        refine lk_goto (tgt := 108) dX9_dry_90 (by decide) ?_
        refine lk_iret .int dX9_dry_108 rfl rfl ?_
        rw [hQ]
        rw [show 41 - i = 0 by omega] at hI
        rw [← hR, hI]
        exact ⟨rfl, rfl, W, rfl, hWf, hWk⟩
      ·
        refine lk_aload_n dX9_dry_46 rfl rfl ?_
        refine lk_getIv (v := (-2)) (f := 24) dX9_dry_47 rfl fX9_209 (by decide) (by decide) ((lk_rf (by decide)).trans hW4) ?_
        refine lk_bipush (v := (-2)) dX9_dry_50 (by decide) ?_
        refine lk_icmp_ne (tgt := 68) dX9_dry_52 (by decide) (fun hh5 => absurd hh5 (fun q => q rfl)) (fun hh5 => ?_)
        refine lk_aload_n dX9_dry_55 rfl rfl ?_
        refine lk_iload_n dX9_dry_56 rfl rfl ?_
        refine lk_iload_n dX9_dry_57 rfl rfl ?_
        refine lk_iconst (v := 0) dX9_dry_58 (by decide) ?_
        rcases hj : (lk_day V1 T n u e).2.1 with _ | kq
        ·
          refine lk_callV (o := 1) (as := [lk_vi (nI (u)), lk_vi (nI (e)), lk_vi 0]) (S := []) dX9_dry_59 rfl vX9_dayGoes rfl lX9_222 rfl rfl (Nat.le_of_ble_eq_true rfl) (tX9_dayGoes0 l X d W τ (u := (u)) (e := (e)) (V := V1) (T := T) (n := n) (ha0 := hc) (hu := hu) (he := he)) ?_
          refine lk_k4 (fun W2 hW2 => ?_)
          refine lk_cast (pc' := 62) (S' := []) rfl rfl rfl ?_
          refine lk_sg (σ' := (lk_ms W2 (lk_day V1 T n u e).2.2.1 T)) rfl ?_
          refine lk_iincN (a := i) (m := 1) (L' := [(0, lk_vr 1 0), (1, lk_vi (nI (u))), (2, lk_vi (nI (e))), (3, lk_vi 0), (4, lk_vi (nI (i + 1)))]) dX9_dry_62 rfl rfl (by decide +kernel) rfl ?_
          refine lk_goto (tgt := 39) dX9_dry_65 (by decide) ?_
          rw [show 41 - i = (41 - (i + 1)) + 1 by omega, lk_drf, hj] at hI
          have hI2 : R = lk_drf n u e (41 - (i + 1)) (i + 1) (lk_fl (lk_day V1 T n u e).2) T := hI.trans (lk_drf_t _ _ _ _ _)
          obtain ⟨g1, g2, g3, g4⟩ := hW2
          rw [hj] at g3
          refine lk_sg (σ' := lk_ms W2 (lk_fl (lk_day V1 T n u e).2) T) (lk_ms_fl _ _ _) ?_
          exact ih (i + 1) W2 (lk_fl (lk_day V1 T n u e).2) (by omega) (lk_all_fl (lk_all_day hc)) (lk_fx_tr hWf (lk_fx_sa g1)) (lk_kz_no hWk (by simpa using g4)) g3 (fun j => (lk_fx_2 g1 j).trans (hWl j)) hI2 (by omega)
        ·
          refine lk_callV (o := 1) (as := [lk_vi (nI (u)), lk_vi (nI (e)), lk_vi 0]) (S := []) dX9_dry_59 rfl vX9_dayGoes rfl lX9_222 rfl rfl (Nat.le_of_ble_eq_true rfl) (tX9_dayGoes0 l X d W τ (u := (u)) (e := (e)) (V := V1) (T := T) (n := n) (ha0 := hc) (hu := hu) (he := he)) ?_
          refine lk_k4 (fun W3 hW3 => ?_)
          refine lk_cast (pc' := 62) (S' := []) rfl rfl rfl ?_
          refine lk_sg (σ' := (lk_ms W3 (lk_day V1 T n u e).2.2.1 T)) rfl ?_
          refine lk_iincN (a := i) (m := 1) (L' := [(0, lk_vr 1 0), (1, lk_vi (nI (u))), (2, lk_vi (nI (e))), (3, lk_vi 0), (4, lk_vi (nI (i + 1)))]) dX9_dry_62 rfl rfl (by decide +kernel) rfl ?_
          rw [show 41 - i = (41 - (i + 1)) + 1 by omega, lk_drf, hj] at hI
          simp only [] at hI
          obtain ⟨g1, g2, g3, g4⟩ := hW3
          rw [hj] at g3
          have hWs := lk_fx_tr hWf (lk_fx_sa g1)
          have hWl' : ∀ j, W3 1 2 j = lk_mw V T (σ 1 0) j := fun j => (lk_fx_2 g1 j).trans (hWl j)
          clear hWl
          have hWl := hWl'
          
          refine lk_goto (tgt := 39) dX9_dry_65 (by decide) ?_
          refine lk_iload dX9_dry_39 rfl ?_
          refine lk_bipush (v := 40) dX9_dry_41 (by decide) ?_
          refine lk_icmp_gtN (a := i + 1) (b := 40) (tgt := 68) dX9_dry_43 (by decide) (by omega) (by omega) (fun hh6 => ?_) (fun hh6 => ?_)
          ·
            refine lk_aload_n dX9_dry_68 rfl rfl ?_
            refine lk_getR (f := 2) dX9_dry_69 rfl fX9_18 (by decide) (by decide) ?_
            refine lk_aload_n dX9_dry_72 rfl rfl ?_
            refine lk_getR (f := 0) dX9_dry_73 rfl fX9_9 (by decide) (by decide) ?_
            refine lk_callS (as := [lk_vr 1 3, lk_vr 1 1]) (S := []) dX9_dry_76 rfl vX9_pours rfl lX9_105 (Nat.le_of_ble_eq_true rfl) (tX9_pours_20ms l X (d + 5) W3 τ (V := (lk_day V1 T n u e).2.2.1) (T := T) (V0 := V) (T0 := T) (R := σ 1 0) (hA := fun j hj => hWl j)) ?_
            refine lk_k3 ?_
            refine lk_cast (pc' := 79) (S' := []) rfl rfl rfl ?_
            refine lk_sg (σ' := (lk_ms W3 V T)) (by rw [lk_sw_fx hWs]) ?_
            refine lk_aload_n dX9_dry_79 rfl rfl ?_
            refine lk_getIv (v := (nI (kq.1))) (f := 24) dX9_dry_80 rfl fX9_209 (by decide) (by decide) ((lk_rf (by decide)).trans g3) ?_
            refine lk_bipush (v := (-2)) dX9_dry_83 (by decide) ?_
            refine lk_icmp_ne (tgt := 93) dX9_dry_85 (by decide) (fun hh7 => ?_) (fun hh7 => absurd hh7 (lk_nim2 (lk_bigk hn6 hc hj)))
            refine lk_iload_n dX9_dry_93 rfl rfl ?_
            refine lk_if_ne (tgt := 104) dX9_dry_94 (by decide) (fun hh8 => absurd hh8 (by decide)) (fun hh8 => ?_)
            refine lk_iload dX9_dry_97 rfl ?_
            refine lk_iconst (v := 1) dX9_dry_99 (by decide) ?_
            refine lk_isubN (a := i + 1) (b := 1) dX9_dry_100 (by omega) ?_
            refine lk_goto (tgt := 108) dX9_dry_101 (by decide) ?_
            refine lk_iret .int dX9_dry_108 rfl rfl ?_
            rw [hQ]
            rw [← hR, hI]
            exact ⟨rfl, rfl, W3, rfl, hWs, lk_kz_no hWk (by simpa using g4)⟩
          ·
            refine lk_aload_n dX9_dry_46 rfl rfl ?_
            refine lk_getIv (v := (nI (kq.1))) (f := 24) dX9_dry_47 rfl fX9_209 (by decide) (by decide) ((lk_rf (by decide)).trans g3) ?_
            refine lk_bipush (v := (-2)) dX9_dry_50 (by decide) ?_
            refine lk_icmp_ne (tgt := 68) dX9_dry_52 (by decide) (fun hh9 => ?_) (fun hh9 => absurd hh9 (lk_nim2 (lk_bigk hn6 hc hj)))
            refine lk_aload_n dX9_dry_68 rfl rfl ?_
            refine lk_getR (f := 2) dX9_dry_69 rfl fX9_18 (by decide) (by decide) ?_
            refine lk_aload_n dX9_dry_72 rfl rfl ?_
            refine lk_getR (f := 0) dX9_dry_73 rfl fX9_9 (by decide) (by decide) ?_
            refine lk_callS (as := [lk_vr 1 3, lk_vr 1 1]) (S := []) dX9_dry_76 rfl vX9_pours rfl lX9_105 (Nat.le_of_ble_eq_true rfl) (tX9_pours_20ms l X (d + 5) W3 τ (V := (lk_day V1 T n u e).2.2.1) (T := T) (V0 := V) (T0 := T) (R := σ 1 0) (hA := fun j hj => hWl j)) ?_
            refine lk_k3 ?_
            refine lk_cast (pc' := 79) (S' := []) rfl rfl rfl ?_
            refine lk_sg (σ' := (lk_ms W3 V T)) (by rw [lk_sw_fx hWs]) ?_
            refine lk_aload_n dX9_dry_79 rfl rfl ?_
            refine lk_getIv (v := (nI (kq.1))) (f := 24) dX9_dry_80 rfl fX9_209 (by decide) (by decide) ((lk_rf (by decide)).trans g3) ?_
            refine lk_bipush (v := (-2)) dX9_dry_83 (by decide) ?_
            refine lk_icmp_ne (tgt := 93) dX9_dry_85 (by decide) (fun hh10 => ?_) (fun hh10 => absurd hh10 (lk_nim2 (lk_bigk hn6 hc hj)))
            refine lk_iload_n dX9_dry_93 rfl rfl ?_
            refine lk_if_ne (tgt := 104) dX9_dry_94 (by decide) (fun hh11 => absurd hh11 (by decide)) (fun hh11 => ?_)
            refine lk_iload dX9_dry_97 rfl ?_
            refine lk_iconst (v := 1) dX9_dry_99 (by decide) ?_
            refine lk_isubN (a := i + 1) (b := 1) dX9_dry_100 (by omega) ?_
            refine lk_goto (tgt := 108) dX9_dry_101 (by decide) ?_
            refine lk_iret .int dX9_dry_108 rfl rfl ?_
            rw [hQ]
            rw [← hR, hI]
            exact ⟨rfl, rfl, W3, rfl, hWs, lk_kz_no hWk (by simpa using g4)⟩
  exact LP39 42 0 (lk_up (lk_lay σ V T) 1 24 0 (-2)) V (by omega) ha (lk_fx_up lk_fx_lay (by decide)) ⟨rfl, rfl⟩ rfl (fun j => lk_lay_2 j) hR (by omega)

set_option maxHeartbeats 1000000 in
set_option maxRecDepth 100000 in
theorem tX9_dry_1 (l : Launch) (X : lk_G) (d : Nat) (σ : lk_N) (τ : lk_T) (V T : lk_O) (n u e : Nat) (ha : lk_all V n) (hu : u ≤ 4) (he : e ≤ 4)  : lk_Mt l X mX9_dry (d + 6) [lk_vr 1 0, lk_vi (nI (u)), lk_vi (nI (e)), lk_vi 1] (lk_ms σ V T) τ (fun rr σ1 τ1 => rr = some (lk_vi (match lk_drf n u e 41 0 V T with | some p => nI p.2 | none => -2)) ∧ τ1 = τ ∧ ∃ W : lk_N, σ1 = lk_ms W V T ∧ (lk_fx [2, 6, 7, 8, 9, 10, 11, 22, 24] σ W ∧ lk_kz σ W none)) := by
  refine lk_met (L := [(0, lk_vr 1 0), (1, lk_vi (nI (u))), (2, lk_vi (nI (e))), (3, lk_vi 1)]) (by decide +kernel) (Nat.le_of_ble_eq_true rfl) rfl ?_
  obtain ⟨Q, hQ⟩ : ∃ Q : lk_Q, Q = fun rr σ1 τ1 => rr = some (lk_vi (match lk_drf n u e 41 0 V T with | some p => nI p.2 | none => -2)) ∧ τ1 = τ ∧ ∃ W : lk_N, σ1 = lk_ms W V T ∧ (lk_fx [2, 6, 7, 8, 9, 10, 11, 22, 24] σ W ∧ lk_kz σ W none) := ⟨_, rfl⟩
  rw [← hQ]
  have hn6 := ha.1.2.2.1
  obtain ⟨R, hR⟩ : ∃ R, R = lk_drf n u e 41 0 V T := ⟨_, rfl⟩
  refine lk_iload_n dX9_dry_0 rfl rfl ?_
  refine lk_iload_n dX9_dry_1 rfl rfl ?_
  refine lk_callS (as := [lk_vi (nI (u)), lk_vi (nI (e))]) (S := []) dX9_dry_2 rfl vX9_isTraffic rfl lX9_219 (Nat.le_of_ble_eq_true rfl) (tX9_isTraffic l X (d + 4) (lk_ms σ V T) τ (u := (nI (u))) (e := (nI (e))) ) ?_
  refine lk_k3 ?_
  refine lk_cast (pc' := 5) (S' := [lk_vi (if (0 ≤ (nI (u)) ∧ (nI (u)) ≤ 4) ∧ (0 ≤ (nI (e)) ∧ (nI (e)) ≤ 4) then 1 else 0)]) rfl rfl rfl ?_
  refine lk_if_eqB (tgt := 17) dX9_dry_5 (by decide) (fun hh1 => absurd hh1 (fun q => q ⟨lk_tr hu, lk_tr he⟩)) (fun hh1 => ?_)
  refine lk_iload_n dX9_dry_8 rfl rfl ?_
  refine lk_iconst (v := 0) dX9_dry_9 (by decide) ?_
  refine lk_iconst (v := 1) dX9_dry_10 (by decide) ?_
  refine lk_callS (as := [lk_vi 1, lk_vi 0, lk_vi 1]) (S := []) dX9_dry_11 rfl vX9_within rfl lX9_46 (Nat.le_of_ble_eq_true rfl) (tX9_within l X (d + 5) (lk_ms σ V T) τ (v := (1 : Int32)) (a := (0 : Int32)) (b := (1 : Int32)) ) ?_
  refine lk_k3 ?_
  refine lk_cast (pc' := 14) (S' := [lk_vi (if (0 : Int32) ≤ (1 : Int32) ∧ (1 : Int32) ≤ (1 : Int32) then 1 else 0)]) rfl rfl rfl ?_
  refine lk_if_neB (tgt := 19) dX9_dry_14 (by decide) (fun hh2 => ?_) (fun hh2 => absurd hh2 (fun q => q (by decide)))
  refine lk_aload_n dX9_dry_19 rfl rfl ?_
  refine lk_getR (f := 0) dX9_dry_20 rfl fX9_9 (by decide) (by decide) ?_
  refine lk_aload_n dX9_dry_23 rfl rfl ?_
  refine lk_getR (f := 2) dX9_dry_24 rfl fX9_18 (by decide) (by decide) ?_
  refine lk_callS (as := [lk_vr 1 1, lk_vr 1 3]) (S := []) dX9_dry_27 rfl vX9_pours rfl lX9_105 (Nat.le_of_ble_eq_true rfl) (tX9_pours_02ms l X (d + 5) σ τ (V := V) (T := T) ) ?_
  refine lk_k3 ?_
  refine lk_cast (pc' := 30) (S' := []) rfl rfl rfl ?_
  refine lk_iconst (v := 0) dX9_dry_30 (by decide) ?_
  refine lk_istore (L' := [(0, lk_vr 1 0), (1, lk_vi (nI (u))), (2, lk_vi (nI (e))), (3, lk_vi 1), (4, lk_vi 0)]) dX9_dry_31 (by decide +kernel) rfl ?_
  refine lk_aload_n dX9_dry_33 rfl rfl ?_
  refine lk_bipush (v := (-2)) dX9_dry_34 (by decide) ?_
  refine lk_putI (f := 24) dX9_dry_36 rfl fX9_209 (by decide) (by decide) ?_
  refine lk_sg (σ' := (lk_ms (lk_up (lk_lay σ V T) 1 24 0 (-2)) V T)) (lk_wf (by decide)) ?_
  have LP39 : ∀ (fu : Nat) (i : Nat) (W : lk_N) (V1 : lk_O), i ≤ 41 → lk_all V1 n → lk_fx [2, 6, 7, 8, 9, 10, 11, 22, 24] σ W → lk_kz σ W none → W 1 24 0 = -2 → (∀ j, W 1 2 j = lk_mw V T (σ 1 0) j) → R = lk_drf n u e (41 - i) i V1 T → 41 - i < fu → lk_W l X mX9_dry (d + 6) 39 [(0, lk_vr 1 0), (1, lk_vi (nI (u))), (2, lk_vi (nI (e))), (3, lk_vi 1), (4, lk_vi (nI (i)))] [] (lk_ms W V1 T) τ Q := by
    intro fu
    induction fu with
    | zero => intro i W V1 hi hc hWf hWk hW4 hWl hI hfu; exact absurd hfu (by omega)
    | succ fu ih =>
      intro i W V1 hi hc hWf hWk hW4 hWl hI hfu
      refine lk_iload dX9_dry_39 rfl ?_
      refine lk_bipush (v := 40) dX9_dry_41 (by decide) ?_
      refine lk_icmp_gtN (a := i) (b := 40) (tgt := 68) dX9_dry_43 (by decide) (by omega) (by omega) (fun hh3 => ?_) (fun hh3 => ?_)
      ·
        have hWs := hWf
        refine lk_aload_n dX9_dry_68 rfl rfl ?_
        refine lk_getR (f := 2) dX9_dry_69 rfl fX9_18 (by decide) (by decide) ?_
        refine lk_aload_n dX9_dry_72 rfl rfl ?_
        refine lk_getR (f := 0) dX9_dry_73 rfl fX9_9 (by decide) (by decide) ?_
        refine lk_callS (as := [lk_vr 1 3, lk_vr 1 1]) (S := []) dX9_dry_76 rfl vX9_pours rfl lX9_105 (Nat.le_of_ble_eq_true rfl) (tX9_pours_20ms l X (d + 5) W τ (V := V1) (T := T) (V0 := V) (T0 := T) (R := σ 1 0) (hA := fun j hj => hWl j)) ?_
        refine lk_k3 ?_
        refine lk_cast (pc' := 79) (S' := []) rfl rfl rfl ?_
        refine lk_sg (σ' := (lk_ms W V T)) (by rw [lk_sw_fx hWs]) ?_
        refine lk_aload_n dX9_dry_79 rfl rfl ?_
        refine lk_getIv (v := (-2)) (f := 24) dX9_dry_80 rfl fX9_209 (by decide) (by decide) ((lk_rf (by decide)).trans hW4) ?_
        refine lk_bipush (v := (-2)) dX9_dry_83 (by decide) ?_
        refine lk_icmp_ne (tgt := 93) dX9_dry_85 (by decide) (fun hh4 => absurd hh4 (fun q => q rfl)) (fun hh4 => ?_)
        refine lk_bipush (v := (-2)) dX9_dry_88 (by decide) ?_
        refine lk_goto (tgt := 108) dX9_dry_90 (by decide) ?_
        refine lk_iret .int dX9_dry_108 rfl rfl ?_
        rw [hQ]
        rw [show 41 - i = 0 by omega] at hI
        rw [← hR, hI]
        exact ⟨rfl, rfl, W, rfl, hWf, hWk⟩
      ·
        refine lk_aload_n dX9_dry_46 rfl rfl ?_
        refine lk_getIv (v := (-2)) (f := 24) dX9_dry_47 rfl fX9_209 (by decide) (by decide) ((lk_rf (by decide)).trans hW4) ?_
        refine lk_bipush (v := (-2)) dX9_dry_50 (by decide) ?_
        refine lk_icmp_ne (tgt := 68) dX9_dry_52 (by decide) (fun hh5 => absurd hh5 (fun q => q rfl)) (fun hh5 => ?_)
        refine lk_aload_n dX9_dry_55 rfl rfl ?_
        refine lk_iload_n dX9_dry_56 rfl rfl ?_
        refine lk_iload_n dX9_dry_57 rfl rfl ?_
        refine lk_iconst (v := 0) dX9_dry_58 (by decide) ?_
        rcases hj : (lk_day V1 T n u e).2.1 with _ | kq
        ·
          refine lk_callV (o := 1) (as := [lk_vi (nI (u)), lk_vi (nI (e)), lk_vi 0]) (S := []) dX9_dry_59 rfl vX9_dayGoes rfl lX9_222 rfl rfl (Nat.le_of_ble_eq_true rfl) (tX9_dayGoes0 l X d W τ (u := (u)) (e := (e)) (V := V1) (T := T) (n := n) (ha0 := hc) (hu := hu) (he := he)) ?_
          refine lk_k4 (fun W2 hW2 => ?_)
          refine lk_cast (pc' := 62) (S' := []) rfl rfl rfl ?_
          refine lk_sg (σ' := (lk_ms W2 (lk_day V1 T n u e).2.2.1 T)) rfl ?_
          refine lk_iincN (a := i) (m := 1) (L' := [(0, lk_vr 1 0), (1, lk_vi (nI (u))), (2, lk_vi (nI (e))), (3, lk_vi 1), (4, lk_vi (nI (i + 1)))]) dX9_dry_62 rfl rfl (by decide +kernel) rfl ?_
          refine lk_goto (tgt := 39) dX9_dry_65 (by decide) ?_
          rw [show 41 - i = (41 - (i + 1)) + 1 by omega, lk_drf, hj] at hI
          have hI2 : R = lk_drf n u e (41 - (i + 1)) (i + 1) (lk_fl (lk_day V1 T n u e).2) T := hI.trans (lk_drf_t _ _ _ _ _)
          obtain ⟨g1, g2, g3, g4⟩ := hW2
          rw [hj] at g3
          refine lk_sg (σ' := lk_ms W2 (lk_fl (lk_day V1 T n u e).2) T) (lk_ms_fl _ _ _) ?_
          exact ih (i + 1) W2 (lk_fl (lk_day V1 T n u e).2) (by omega) (lk_all_fl (lk_all_day hc)) (lk_fx_tr hWf (lk_fx_sa g1)) (lk_kz_no hWk (by simpa using g4)) g3 (fun j => (lk_fx_2 g1 j).trans (hWl j)) hI2 (by omega)
        ·
          refine lk_callV (o := 1) (as := [lk_vi (nI (u)), lk_vi (nI (e)), lk_vi 0]) (S := []) dX9_dry_59 rfl vX9_dayGoes rfl lX9_222 rfl rfl (Nat.le_of_ble_eq_true rfl) (tX9_dayGoes0 l X d W τ (u := (u)) (e := (e)) (V := V1) (T := T) (n := n) (ha0 := hc) (hu := hu) (he := he)) ?_
          refine lk_k4 (fun W3 hW3 => ?_)
          refine lk_cast (pc' := 62) (S' := []) rfl rfl rfl ?_
          refine lk_sg (σ' := (lk_ms W3 (lk_day V1 T n u e).2.2.1 T)) rfl ?_
          refine lk_iincN (a := i) (m := 1) (L' := [(0, lk_vr 1 0), (1, lk_vi (nI (u))), (2, lk_vi (nI (e))), (3, lk_vi 1), (4, lk_vi (nI (i + 1)))]) dX9_dry_62 rfl rfl (by decide +kernel) rfl ?_
          rw [show 41 - i = (41 - (i + 1)) + 1 by omega, lk_drf, hj] at hI
          simp only [] at hI
          obtain ⟨g1, g2, g3, g4⟩ := hW3
          rw [hj] at g3
          have hWs := lk_fx_tr hWf (lk_fx_sa g1)
          have hWl' : ∀ j, W3 1 2 j = lk_mw V T (σ 1 0) j := fun j => (lk_fx_2 g1 j).trans (hWl j)
          clear hWl
          have hWl := hWl'
          
          refine lk_goto (tgt := 39) dX9_dry_65 (by decide) ?_
          refine lk_iload dX9_dry_39 rfl ?_
          refine lk_bipush (v := 40) dX9_dry_41 (by decide) ?_
          refine lk_icmp_gtN (a := i + 1) (b := 40) (tgt := 68) dX9_dry_43 (by decide) (by omega) (by omega) (fun hh6 => ?_) (fun hh6 => ?_)
          ·
            refine lk_aload_n dX9_dry_68 rfl rfl ?_
            refine lk_getR (f := 2) dX9_dry_69 rfl fX9_18 (by decide) (by decide) ?_
            refine lk_aload_n dX9_dry_72 rfl rfl ?_
            refine lk_getR (f := 0) dX9_dry_73 rfl fX9_9 (by decide) (by decide) ?_
            refine lk_callS (as := [lk_vr 1 3, lk_vr 1 1]) (S := []) dX9_dry_76 rfl vX9_pours rfl lX9_105 (Nat.le_of_ble_eq_true rfl) (tX9_pours_20ms l X (d + 5) W3 τ (V := (lk_day V1 T n u e).2.2.1) (T := T) (V0 := V) (T0 := T) (R := σ 1 0) (hA := fun j hj => hWl j)) ?_
            refine lk_k3 ?_
            refine lk_cast (pc' := 79) (S' := []) rfl rfl rfl ?_
            refine lk_sg (σ' := (lk_ms W3 V T)) (by rw [lk_sw_fx hWs]) ?_
            refine lk_aload_n dX9_dry_79 rfl rfl ?_
            refine lk_getIv (v := (nI (kq.1))) (f := 24) dX9_dry_80 rfl fX9_209 (by decide) (by decide) ((lk_rf (by decide)).trans g3) ?_
            refine lk_bipush (v := (-2)) dX9_dry_83 (by decide) ?_
            refine lk_icmp_ne (tgt := 93) dX9_dry_85 (by decide) (fun hh7 => ?_) (fun hh7 => absurd hh7 (lk_nim2 (lk_bigk hn6 hc hj)))
            refine lk_iload_n dX9_dry_93 rfl rfl ?_
            refine lk_if_ne (tgt := 104) dX9_dry_94 (by decide) (fun hh8 => ?_) (fun hh8 => absurd hh8 (by decide))
            refine lk_aload_n dX9_dry_104 rfl rfl ?_
            refine lk_getIv (v := (nI (kq.1))) (f := 24) dX9_dry_105 rfl fX9_209 (by decide) (by decide) ((lk_rf (by decide)).trans g3) ?_
            refine lk_iret .int dX9_dry_108 rfl rfl ?_
            rw [hQ]
            rw [← hR, hI]
            exact ⟨rfl, rfl, W3, rfl, hWs, lk_kz_no hWk (by simpa using g4)⟩
          ·
            refine lk_aload_n dX9_dry_46 rfl rfl ?_
            refine lk_getIv (v := (nI (kq.1))) (f := 24) dX9_dry_47 rfl fX9_209 (by decide) (by decide) ((lk_rf (by decide)).trans g3) ?_
            refine lk_bipush (v := (-2)) dX9_dry_50 (by decide) ?_
            refine lk_icmp_ne (tgt := 68) dX9_dry_52 (by decide) (fun hh9 => ?_) (fun hh9 => absurd hh9 (lk_nim2 (lk_bigk hn6 hc hj)))
            refine lk_aload_n dX9_dry_68 rfl rfl ?_
            refine lk_getR (f := 2) dX9_dry_69 rfl fX9_18 (by decide) (by decide) ?_
            refine lk_aload_n dX9_dry_72 rfl rfl ?_
            refine lk_getR (f := 0) dX9_dry_73 rfl fX9_9 (by decide) (by decide) ?_
            refine lk_callS (as := [lk_vr 1 3, lk_vr 1 1]) (S := []) dX9_dry_76 rfl vX9_pours rfl lX9_105 (Nat.le_of_ble_eq_true rfl) (tX9_pours_20ms l X (d + 5) W3 τ (V := (lk_day V1 T n u e).2.2.1) (T := T) (V0 := V) (T0 := T) (R := σ 1 0) (hA := fun j hj => hWl j)) ?_
            refine lk_k3 ?_
            refine lk_cast (pc' := 79) (S' := []) rfl rfl rfl ?_
            refine lk_sg (σ' := (lk_ms W3 V T)) (by rw [lk_sw_fx hWs]) ?_
            refine lk_aload_n dX9_dry_79 rfl rfl ?_
            refine lk_getIv (v := (nI (kq.1))) (f := 24) dX9_dry_80 rfl fX9_209 (by decide) (by decide) ((lk_rf (by decide)).trans g3) ?_
            refine lk_bipush (v := (-2)) dX9_dry_83 (by decide) ?_
            refine lk_icmp_ne (tgt := 93) dX9_dry_85 (by decide) (fun hh10 => ?_) (fun hh10 => absurd hh10 (lk_nim2 (lk_bigk hn6 hc hj)))
            refine lk_iload_n dX9_dry_93 rfl rfl ?_
            refine lk_if_ne (tgt := 104) dX9_dry_94 (by decide) (fun hh11 => ?_) (fun hh11 => absurd hh11 (by decide))
            refine lk_aload_n dX9_dry_104 rfl rfl ?_
            refine lk_getIv (v := (nI (kq.1))) (f := 24) dX9_dry_105 rfl fX9_209 (by decide) (by decide) ((lk_rf (by decide)).trans g3) ?_
            refine lk_iret .int dX9_dry_108 rfl rfl ?_
            rw [hQ]
            rw [← hR, hI]
            exact ⟨rfl, rfl, W3, rfl, hWs, lk_kz_no hWk (by simpa using g4)⟩
  exact LP39 42 0 (lk_up (lk_lay σ V T) 1 24 0 (-2)) V (by omega) ha (lk_fx_up lk_fx_lay (by decide)) ⟨rfl, rfl⟩ rfl (fun j => lk_lay_2 j) hR (by omega)

set_option maxHeartbeats 1000000 in
set_option maxRecDepth 100000 in
theorem tX9_pond_bad (l : Launch) (X : lk_G) (d : Nat) (σ : lk_N) (τ : lk_T) (u e m : Int32) (h : ¬ (((0 ≤ u ∧ u ≤ 4) ∧ (0 ≤ e ∧ e ≤ 4)) ∧ 1 ≤ m ∧ m ≤ 20)) : lk_Mt l X mX9_pond (d + 7) [lk_vr 1 0, lk_vi (u), lk_vi (e), lk_vi (m)] σ τ (fun rr σ1 τ1 => rr = some (lk_vi (-1)) ∧ σ1 = σ ∧ τ1 = τ) := by
  refine lk_met (L := [(0, lk_vr 1 0), (1, lk_vi (u)), (2, lk_vi (e)), (3, lk_vi (m))]) (by decide +kernel) (Nat.le_of_ble_eq_true rfl) rfl ?_
  obtain ⟨Q, hQ⟩ : ∃ Q : lk_Q, Q = fun rr σ1 τ1 => rr = some (lk_vi (-1)) ∧ σ1 = σ ∧ τ1 = τ := ⟨_, rfl⟩
  rw [← hQ]
  refine lk_iload_n dX9_pond_0 rfl rfl ?_
  refine lk_iload_n dX9_pond_1 rfl rfl ?_
  refine lk_callS (as := [lk_vi (u), lk_vi (e)]) (S := []) dX9_pond_2 rfl vX9_isTraffic rfl lX9_219 (Nat.le_of_ble_eq_true rfl) (tX9_isTraffic l X (d + 5) σ τ (u := (u)) (e := (e)) ) ?_
  refine lk_k3 ?_
  refine lk_cast (pc' := 5) (S' := [lk_vi (if (0 ≤ (u) ∧ (u) ≤ 4) ∧ (0 ≤ (e) ∧ (e) ≤ 4) then 1 else 0)]) rfl rfl rfl ?_
  refine lk_if_eqB (tgt := 18) dX9_pond_5 (by decide) (fun hh1 => ?_) (fun hh1 => ?_)
  ·
    refine lk_iconst (v := (-1)) dX9_pond_18 (by decide) ?_
    refine lk_iret .int dX9_pond_19 rfl rfl ?_
    rw [hQ]
    exact ⟨by first | rfl | (simp [*]; done) | (simp_all; done) | grind, by first | rfl | (simp [*]; done), rfl⟩
  ·
    refine lk_iload_n dX9_pond_8 rfl rfl ?_
    refine lk_iconst (v := 1) dX9_pond_9 (by decide) ?_
    refine lk_bipush (v := 20) dX9_pond_10 (by decide) ?_
    refine lk_callS (as := [lk_vi (m), lk_vi 1, lk_vi 20]) (S := []) dX9_pond_12 rfl vX9_within rfl lX9_46 (Nat.le_of_ble_eq_true rfl) (tX9_within l X (d + 6) σ τ (v := (m)) (a := (1 : Int32)) (b := (20 : Int32)) ) ?_
    refine lk_k3 ?_
    refine lk_cast (pc' := 15) (S' := [lk_vi (if (1 : Int32) ≤ (m) ∧ (m) ≤ (20 : Int32) then 1 else 0)]) rfl rfl rfl ?_
    refine lk_if_neB (tgt := 20) dX9_pond_15 (by decide) (fun hh2 => ?_) (fun hh2 => ?_)
    ·
      exact absurd ⟨by assumption, by assumption⟩ h
    ·
      refine lk_iconst (v := (-1)) dX9_pond_18 (by decide) ?_
      refine lk_iret .int dX9_pond_19 rfl rfl ?_
      rw [hQ]
      exact ⟨by first | rfl | (simp [*]; done) | (simp_all; done) | grind, by first | rfl | (simp [*]; done), rfl⟩

set_option maxHeartbeats 1000000 in
set_option maxRecDepth 100000 in
theorem tX9_pond_ok (l : Launch) (X : lk_G) (d : Nat) (σ : lk_N) (τ : lk_T) (V T : lk_O) (n u e : Nat) (ha : lk_all V n) (hu : u ≤ 4) (he : e ≤ 4) (m : Nat) (hm1 : 1 ≤ m) (hm : m ≤ 20) : lk_Mt l X mX9_pond (d + 7) [lk_vr 1 0, lk_vi (nI (u)), lk_vi (nI (e)), lk_vi (nI (m))] (lk_ms σ V T) τ (fun rr σ1 τ1 => rr = some (lk_vi (lk_pon V T n u e m n).2) ∧ τ1 = τ ∧ ∃ W : lk_N, σ1 = lk_ms W V T ∧ (lk_fx [2, 6, 7, 8, 9, 10, 11, 22, 24] σ W ∧ lk_kz σ W none)) := by
  refine lk_met (L := [(0, lk_vr 1 0), (1, lk_vi (nI (u))), (2, lk_vi (nI (e))), (3, lk_vi (nI (m)))]) (by decide +kernel) (Nat.le_of_ble_eq_true rfl) rfl ?_
  obtain ⟨Q, hQ⟩ : ∃ Q : lk_Q, Q = fun rr σ1 τ1 => rr = some (lk_vi (lk_pon V T n u e m n).2) ∧ τ1 = τ ∧ ∃ W : lk_N, σ1 = lk_ms W V T ∧ (lk_fx [2, 6, 7, 8, 9, 10, 11, 22, 24] σ W ∧ lk_kz σ W none) := ⟨_, rfl⟩
  rw [← hQ]
  have hn6 := ha.1.2.2.1
  refine lk_iload_n dX9_pond_0 rfl rfl ?_
  refine lk_iload_n dX9_pond_1 rfl rfl ?_
  refine lk_callS (as := [lk_vi (nI (u)), lk_vi (nI (e))]) (S := []) dX9_pond_2 rfl vX9_isTraffic rfl lX9_219 (Nat.le_of_ble_eq_true rfl) (tX9_isTraffic l X (d + 5) (lk_ms σ V T) τ (u := (nI (u))) (e := (nI (e))) ) ?_
  refine lk_k3 ?_
  refine lk_cast (pc' := 5) (S' := [lk_vi (if (0 ≤ (nI (u)) ∧ (nI (u)) ≤ 4) ∧ (0 ≤ (nI (e)) ∧ (nI (e)) ≤ 4) then 1 else 0)]) rfl rfl rfl ?_
  refine lk_if_eqB (tgt := 18) dX9_pond_5 (by decide) (fun hh1 => absurd hh1 (fun q => q ⟨lk_tr hu, lk_tr he⟩)) (fun hh1 => ?_)
  refine lk_iload_n dX9_pond_8 rfl rfl ?_
  refine lk_iconst (v := 1) dX9_pond_9 (by decide) ?_
  refine lk_bipush (v := 20) dX9_pond_10 (by decide) ?_
  refine lk_callS (as := [lk_vi (nI (m)), lk_vi 1, lk_vi 20]) (S := []) dX9_pond_12 rfl vX9_within rfl lX9_46 (Nat.le_of_ble_eq_true rfl) (tX9_within l X (d + 6) (lk_ms σ V T) τ (v := (nI (m))) (a := (1 : Int32)) (b := (20 : Int32)) ) ?_
  refine lk_k3 ?_
  refine lk_cast (pc' := 15) (S' := [lk_vi (if (1 : Int32) ≤ (nI (m)) ∧ (nI (m)) ≤ (20 : Int32) then 1 else 0)]) rfl rfl rfl ?_
  refine lk_if_neB (tgt := 20) dX9_pond_15 (by decide) (fun hh2 => ?_) (fun hh2 => absurd hh2 (fun q => q ⟨lk_one hm1 hm, nI_le (b := 20) hm (by decide)⟩))
  refine lk_aload_n dX9_pond_20 rfl rfl ?_
  refine lk_getR (f := 0) dX9_pond_21 rfl fX9_9 (by decide) (by decide) ?_
  refine lk_aload_n dX9_pond_24 rfl rfl ?_
  refine lk_getR (f := 2) dX9_pond_25 rfl fX9_18 (by decide) (by decide) ?_
  refine lk_callS (as := [lk_vr 1 1, lk_vr 1 3]) (S := []) dX9_pond_28 rfl vX9_pours rfl lX9_105 (Nat.le_of_ble_eq_true rfl) (tX9_pours_02ms l X (d + 6) σ τ (V := V) (T := T) ) ?_
  refine lk_k3 ?_
  refine lk_cast (pc' := 31) (S' := []) rfl rfl rfl ?_
  refine lk_aload_n dX9_pond_31 rfl rfl ?_
  refine lk_iload_n dX9_pond_32 rfl rfl ?_
  refine lk_iload_n dX9_pond_33 rfl rfl ?_
  refine lk_iload_n dX9_pond_34 rfl rfl ?_
  refine lk_callV (o := 1) (as := [lk_vi (nI (u)), lk_vi (nI (e)), lk_vi (nI (m))]) (S := []) dX9_pond_35 rfl vX9_summit rfl lX9_225 rfl rfl (Nat.le_of_ble_eq_true rfl) (tX9_summit l X d (lk_lay σ V T) τ (u := (u)) (e := (e)) (m := (m)) (V := V) (T := T) (n := n) (ha := ha) (hu := hu) (he := he) (hm := hm)) ?_
  refine lk_k4 (fun W1 hW1 => ?_)
  refine lk_cast (pc' := 38) (S' := [lk_vi ((lk_dys n u e m V T).1 6 n)]) rfl rfl rfl ?_
  refine lk_sg (σ' := (lk_ms W1 (lk_dys n u e m V T).1 T)) rfl ?_
  refine lk_istore (L' := [(0, lk_vr 1 0), (1, lk_vi (nI (u))), (2, lk_vi (nI (e))), (3, lk_vi (nI (m))), (4, lk_vi ((lk_dys n u e m V T).1 6 n))]) dX9_pond_38 (by decide +kernel) rfl ?_
  refine lk_bipush (v := (-2)) dX9_pond_40 (by decide) ?_
  refine lk_istore (L' := [(0, lk_vr 1 0), (1, lk_vi (nI (u))), (2, lk_vi (nI (e))), (3, lk_vi (nI (m))), (4, lk_vi ((lk_dys n u e m V T).1 6 n)), (5, lk_vi (-2))]) dX9_pond_42 (by decide +kernel) rfl ?_
  refine lk_iconst (v := 0) dX9_pond_44 (by decide) ?_
  refine lk_istore (L' := [(0, lk_vr 1 0), (1, lk_vi (nI (u))), (2, lk_vi (nI (e))), (3, lk_vi (nI (m))), (4, lk_vi ((lk_dys n u e m V T).1 6 n)), (5, lk_vi (-2)), (6, lk_vi 0)]) dX9_pond_45 (by decide +kernel) rfl ?_
  have LP47 : ∀ (fu : Nat) (k : Nat) (y z : Int32) (W : lk_N) (V1 : lk_O), k ≤ n → (y, z) = lk_pon V T n u e m k → V1 0 0 = nI n → lk_fx [2, 6, 7, 8, 9, 10, 11, 22, 24] σ W → lk_kz σ W none → (∀ j, W 1 2 j = lk_mw V T (σ 1 0) j) → n - k < fu → lk_W l X mX9_pond (d + 7) 47 [(0, lk_vr 1 0), (1, lk_vi (nI (u))), (2, lk_vi (nI (e))), (3, lk_vi (nI (m))), (4, lk_vi (y)), (5, lk_vi (z)), (6, lk_vi (nI (k)))] [] (lk_ms W V1 T) τ Q := by
    intro fu
    induction fu with
    | zero => intro k y z W V1 hk hI hc1 hWf hWk hWl hfu; exact absurd hfu (by omega)
    | succ fu ih =>
      intro k y z W V1 hk hI hc1 hWf hWk hWl hfu
      have hWs := hWf
      refine lk_iload dX9_pond_47 rfl ?_
      refine lk_aload_n dX9_pond_49 rfl rfl ?_
      refine lk_getR (f := 0) dX9_pond_50 rfl fX9_9 (by decide) (by decide) ?_
      refine lk_bipush (v := 53) dX9_pond_53 (by decide) ?_
      refine lk_ialdN (f := 0) (i := 53) dX9_pond_55 rfl (by decide) rfl (by omega) (by decide) ?_
      refine lk_eqtop (y := (nI (n))) ((lk_r0 rfl rfl).trans (by first | exact ha.1.1 | exact hc1)) ?_
      refine lk_icmp_geN (a := k) (b := n) (tgt := 161) dX9_pond_56 (by decide) (by omega) (by omega) (fun hh3 => ?_) (fun hh3 => ?_)
      ·
        refine lk_aload_n dX9_pond_161 rfl rfl ?_
        refine lk_getR (f := 2) dX9_pond_162 rfl fX9_18 (by decide) (by decide) ?_
        refine lk_aload_n dX9_pond_165 rfl rfl ?_
        refine lk_getR (f := 0) dX9_pond_166 rfl fX9_9 (by decide) (by decide) ?_
        refine lk_callS (as := [lk_vr 1 3, lk_vr 1 1]) (S := []) dX9_pond_169 rfl vX9_pours rfl lX9_105 (Nat.le_of_ble_eq_true rfl) (tX9_pours_20ms l X (d + 6) W τ (V := V1) (T := T) (V0 := V) (T0 := T) (R := σ 1 0) (hA := fun j hj => hWl j)) ?_
        refine lk_k3 ?_
        refine lk_cast (pc' := 172) (S' := []) rfl rfl rfl ?_
        refine lk_sg (σ' := (lk_ms W V T)) (by rw [lk_sw_fx hWs]) ?_
        refine lk_iload dX9_pond_172 rfl ?_
        refine lk_iret .int dX9_pond_174 rfl rfl ?_
        rw [hQ]
        have hkn : k = n := by omega
        subst hkn
        rw [← hI]
        exact ⟨rfl, rfl, W, rfl, hWf, hWk⟩
      ·
        refine lk_aload_n dX9_pond_59 rfl rfl ?_
        refine lk_getR (f := 2) dX9_pond_60 rfl fX9_18 (by decide) (by decide) ?_
        refine lk_aload_n dX9_pond_63 rfl rfl ?_
        refine lk_getR (f := 0) dX9_pond_64 rfl fX9_9 (by decide) (by decide) ?_
        refine lk_callS (as := [lk_vr 1 3, lk_vr 1 1]) (S := []) dX9_pond_67 rfl vX9_pours rfl lX9_105 (Nat.le_of_ble_eq_true rfl) (tX9_pours_20ms l X (d + 6) W τ (V := V1) (T := T) (V0 := V) (T0 := T) (R := σ 1 0) (hA := fun j hj => hWl j)) ?_
        refine lk_k3 ?_
        refine lk_cast (pc' := 70) (S' := []) rfl rfl rfl ?_
        refine lk_sg (σ' := (lk_ms W V T)) (by rw [lk_sw_fx hWs]) ?_
        refine lk_aload_n dX9_pond_70 rfl rfl ?_
        refine lk_getR (f := 0) dX9_pond_71 rfl fX9_9 (by decide) (by decide) ?_
        refine lk_bipush (v := 6) dX9_pond_74 (by decide) ?_
        refine lk_iload dX9_pond_76 rfl ?_
        refine lk_iaddN (a := 6) (b := k) dX9_pond_78 ?_
        refine lk_ialdN (f := 0) (i := 6 + k) dX9_pond_79 rfl (by decide) rfl (by omega) (by decide) ?_
        refine lk_eqtop (y := (V 3 (k))) (lk_r3 (by omega) (by omega)) ?_
        refine lk_iconst (v := 3) dX9_pond_80 (by decide) ?_
        refine lk_icmp_eq (tgt := 155) dX9_pond_81 (by decide) (fun hh4 => ?_) (fun hh4 => ?_)
        ·
          refine lk_iincN (a := k) (m := 1) (L' := [(0, lk_vr 1 0), (1, lk_vi (nI (u))), (2, lk_vi (nI (e))), (3, lk_vi (nI (m))), (4, lk_vi (y)), (5, lk_vi (z)), (6, lk_vi (nI (k + 1)))]) dX9_pond_155 rfl rfl (by decide +kernel) rfl ?_
          refine lk_goto (tgt := 47) dX9_pond_158 (by decide) ?_
          have e1 : lk_pon V T n u e m (k + 1) = lk_pon V T n u e m k := by
            simp only [lk_pon]
            rw [if_neg]
            rintro ⟨a, b, c⟩
            simp_all
          exact ih (k + 1) y z W V (by omega) (hI.trans e1.symm) ha.1.1 hWf hWk hWl (by omega)
        ·
          refine lk_aload_n dX9_pond_84 rfl rfl ?_
          refine lk_getR (f := 0) dX9_pond_85 rfl fX9_9 (by decide) (by decide) ?_
          refine lk_bipush (v := 18) dX9_pond_88 (by decide) ?_
          refine lk_iload dX9_pond_90 rfl ?_
          refine lk_iaddN (a := 18) (b := k) dX9_pond_92 ?_
          refine lk_ialdN (f := 0) (i := 18 + k) dX9_pond_93 rfl (by decide) rfl (by omega) (by decide) ?_
          refine lk_eqtop (y := (V 5 (k))) (lk_r5 (by omega) (by omega)) ?_
          refine lk_iconst (v := 1) dX9_pond_94 (by decide) ?_
          refine lk_icmp_eq (tgt := 155) dX9_pond_95 (by decide) (fun hh5 => ?_) (fun hh5 => ?_)
          ·
            refine lk_iincN (a := k) (m := 1) (L' := [(0, lk_vr 1 0), (1, lk_vi (nI (u))), (2, lk_vi (nI (e))), (3, lk_vi (nI (m))), (4, lk_vi (y)), (5, lk_vi (z)), (6, lk_vi (nI (k + 1)))]) dX9_pond_155 rfl rfl (by decide +kernel) rfl ?_
            refine lk_goto (tgt := 47) dX9_pond_158 (by decide) ?_
            have e1 : lk_pon V T n u e m (k + 1) = lk_pon V T n u e m k := by
              simp only [lk_pon]
              rw [if_neg]
              rintro ⟨a, b, c⟩
              simp_all
            exact ih (k + 1) y z W V (by omega) (hI.trans e1.symm) ha.1.1 hWf hWk hWl (by omega)
          ·
            refine lk_aload_n dX9_pond_98 rfl rfl ?_
            refine lk_getR (f := 0) dX9_pond_99 rfl fX9_9 (by decide) (by decide) ?_
            refine lk_bipush (v := 12) dX9_pond_102 (by decide) ?_
            refine lk_iload dX9_pond_104 rfl ?_
            refine lk_iaddN (a := 12) (b := k) dX9_pond_106 ?_
            refine lk_ialdN (f := 0) (i := 12 + k) dX9_pond_107 rfl (by decide) rfl (by omega) (by decide) ?_
            refine lk_eqtop (y := (V 4 (k))) (lk_r4 (by omega) (by omega)) ?_
            refine lk_if_le (tgt := 114) dX9_pond_108 (by decide) (fun hh6 => ?_) (fun hh6 => ?_)
            ·
              have h3 : V 3 k < 3 := lk_lt3 (ha.1.2.2.2 k (by omega)).2.2.2.1 (by assumption)
              have hrest := lk_restm (ha.1.2.2.2 k (by omega)) (by assumption) (by assumption)
              have ha2 := lk_all_pon ha (show k < n by omega) h3 hrest
              refine lk_aload_n dX9_pond_114 rfl rfl ?_
              refine lk_getR (f := 0) dX9_pond_115 rfl fX9_9 (by decide) (by decide) ?_
              refine lk_bipush (v := 6) dX9_pond_118 (by decide) ?_
              refine lk_iload dX9_pond_120 rfl ?_
              refine lk_iaddN (a := 6) (b := k) dX9_pond_122 ?_
              refine lk_dup2 dX9_pond_123 rfl rfl ?_
              refine lk_ialdN (f := 0) (i := 6 + k) dX9_pond_124 rfl (by decide) rfl (by omega) (by decide) ?_
              refine lk_eqtop (y := (V 3 (k))) (lk_r3 (by omega) (by omega)) ?_
              refine lk_iconst (v := 1) dX9_pond_125 (by decide) ?_
              refine lk_iadd dX9_pond_126 ?_
              refine lk_iastN (f := 0) (i := 6 + k) (v := ((V 3 (k)) + 1)) dX9_pond_127 rfl (by decide) rfl (by omega) (by decide) ?_
              refine lk_sg (σ' := (lk_ms W (lk_ou V 3 (k) ((V 3 (k)) + 1)) T)) (lk_w3 (by omega) (by omega)) ?_
              refine lk_aload_n dX9_pond_128 rfl rfl ?_
              refine lk_iload_n dX9_pond_129 rfl rfl ?_
              refine lk_iload_n dX9_pond_130 rfl rfl ?_
              refine lk_iload_n dX9_pond_131 rfl rfl ?_
              refine lk_callV (o := 1) (as := [lk_vi (nI (u)), lk_vi (nI (e)), lk_vi (nI (m))]) (S := []) dX9_pond_132 rfl vX9_summit rfl lX9_225 rfl rfl (Nat.le_of_ble_eq_true rfl) (tX9_summit l X d W τ (u := (u)) (e := (e)) (m := (m)) (V := (lk_ou V 3 (k) ((V 3 (k)) + 1))) (T := T) (n := n) (ha := ha2) (hu := hu) (he := he) (hm := hm)) ?_
              refine lk_k4 (fun W2 hW2 => ?_)
              refine lk_cast (pc' := 135) (S' := [lk_vi ((lk_dys n u e m (lk_ou V 3 (k) ((V 3 (k)) + 1)) T).1 6 n)]) rfl rfl rfl ?_
              refine lk_sg (σ' := (lk_ms W2 (lk_dys n u e m (lk_ou V 3 (k) ((V 3 (k)) + 1)) T).1 T)) rfl ?_
              refine lk_istore (L' := [(0, lk_vr 1 0), (1, lk_vi (nI (u))), (2, lk_vi (nI (e))), (3, lk_vi (nI (m))), (4, lk_vi (y)), (5, lk_vi (z)), (6, lk_vi (nI (k))), (7, lk_vi ((lk_dys n u e m (lk_ou V 3 (k) ((V 3 (k)) + 1)) T).1 6 n))]) dX9_pond_135 (by decide +kernel) rfl ?_
              refine lk_iload dX9_pond_137 rfl ?_
              refine lk_iload dX9_pond_139 rfl ?_
              refine lk_icmp_gt (tgt := 147) dX9_pond_141 (by decide) (fun hh7 => ?_) (fun hh7 => ?_)
              ·
                refine lk_iload dX9_pond_147 rfl ?_
                refine lk_istore (L' := [(0, lk_vr 1 0), (1, lk_vi (nI (u))), (2, lk_vi (nI (e))), (3, lk_vi (nI (m))), (4, lk_vi ((lk_dys n u e m (lk_ou V 3 (k) ((V 3 (k)) + 1)) T).1 6 n)), (5, lk_vi (z)), (6, lk_vi (nI (k))), (7, lk_vi ((lk_dys n u e m (lk_ou V 3 (k) ((V 3 (k)) + 1)) T).1 6 n))]) dX9_pond_149 (by decide +kernel) rfl ?_
                refine lk_iload dX9_pond_151 rfl ?_
                refine lk_istore (L' := [(0, lk_vr 1 0), (1, lk_vi (nI (u))), (2, lk_vi (nI (e))), (3, lk_vi (nI (m))), (4, lk_vi ((lk_dys n u e m (lk_ou V 3 (k) ((V 3 (k)) + 1)) T).1 6 n)), (5, lk_vi (nI (k))), (6, lk_vi (nI (k))), (7, lk_vi ((lk_dys n u e m (lk_ou V 3 (k) ((V 3 (k)) + 1)) T).1 6 n))]) dX9_pond_153 (by decide +kernel) rfl ?_
                refine lk_iincN (a := k) (m := 1) (L' := [(0, lk_vr 1 0), (1, lk_vi (nI (u))), (2, lk_vi (nI (e))), (3, lk_vi (nI (m))), (4, lk_vi ((lk_dys n u e m (lk_ou V 3 (k) ((V 3 (k)) + 1)) T).1 6 n)), (5, lk_vi (nI (k))), (6, lk_vi (nI (k + 1))), (7, lk_vi ((lk_dys n u e m (lk_ou V 3 (k) ((V 3 (k)) + 1)) T).1 6 n))]) dX9_pond_155 rfl rfl (by decide +kernel) rfl ?_
                refine lk_goto (tgt := 47) dX9_pond_158 (by decide) ?_
                refine lk_sub (L' := [(0, lk_vr 1 0), (1, lk_vi (nI (u))), (2, lk_vi (nI (e))), (3, lk_vi (nI (m))), (4, lk_vi ((lk_dys n u e m (lk_ou V 3 (k) ((V 3 (k)) + 1)) T).1 6 n)), (5, lk_vi (nI (k))), (6, lk_vi (nI (k + 1)))]) [0, 1, 2, 3, 4, 5, 6] rfl ?_
                have e1 : lk_pon V T n u e m (k + 1) = (((lk_dys n u e m (lk_ou V 3 (k) ((V 3 (k)) + 1)) T).1 6 n), nI k) := by
                  simp only [lk_pon]
                  rw [if_pos]
                  refine ⟨h3, hrest, ?_⟩
                  rw [← hI]
                  assumption
                exact ih (k + 1) _ (nI k) W2 _ (by omega) e1.symm (lk_all_dys m _ T ha2).1.1 (lk_fx_tr hWf (lk_fx_sa hW2.1)) (lk_kz_no hWk hW2.2) (fun j => (lk_fx_2 hW2.1 j).trans (hWl j)) (by omega)
              ·
                refine lk_goto (tgt := 155) dX9_pond_144 (by decide) ?_
                refine lk_iincN (a := k) (m := 1) (L' := [(0, lk_vr 1 0), (1, lk_vi (nI (u))), (2, lk_vi (nI (e))), (3, lk_vi (nI (m))), (4, lk_vi (y)), (5, lk_vi (z)), (6, lk_vi (nI (k + 1))), (7, lk_vi ((lk_dys n u e m (lk_ou V 3 (k) ((V 3 (k)) + 1)) T).1 6 n))]) dX9_pond_155 rfl rfl (by decide +kernel) rfl ?_
                refine lk_goto (tgt := 47) dX9_pond_158 (by decide) ?_
                refine lk_sub (L' := [(0, lk_vr 1 0), (1, lk_vi (nI (u))), (2, lk_vi (nI (e))), (3, lk_vi (nI (m))), (4, lk_vi (y)), (5, lk_vi (z)), (6, lk_vi (nI (k + 1)))]) [0, 1, 2, 3, 4, 5, 6] rfl ?_
                have e1 : lk_pon V T n u e m (k + 1) = lk_pon V T n u e m k := by
                  simp only [lk_pon]
                  rw [if_neg]
                  rintro ⟨a, b, c⟩
                  rw [← hI] at c
                  contradiction
                exact ih (k + 1) y z W2 _ (by omega) (hI.trans e1.symm) (lk_all_dys m _ T ha2).1.1 (lk_fx_tr hWf (lk_fx_sa hW2.1)) (lk_kz_no hWk hW2.2) (fun j => (lk_fx_2 hW2.1 j).trans (hWl j)) (by omega)
            ·
              refine lk_goto (tgt := 155) dX9_pond_111 (by decide) ?_
              refine lk_iincN (a := k) (m := 1) (L' := [(0, lk_vr 1 0), (1, lk_vi (nI (u))), (2, lk_vi (nI (e))), (3, lk_vi (nI (m))), (4, lk_vi (y)), (5, lk_vi (z)), (6, lk_vi (nI (k + 1)))]) dX9_pond_155 rfl rfl (by decide +kernel) rfl ?_
              refine lk_goto (tgt := 47) dX9_pond_158 (by decide) ?_
              have e1 : lk_pon V T n u e m (k + 1) = lk_pon V T n u e m k := by
                simp only [lk_pon]
                rw [if_neg]
                rintro ⟨a, b, c⟩
                simp_all
              exact ih (k + 1) y z W V (by omega) (hI.trans e1.symm) ha.1.1 hWf hWk hWl (by omega)
  exact LP47 (n + 1) 0 _ _ W1 _ (by omega) rfl (lk_all_dys m V T ha).1.1 (lk_fx_tr lk_fx_lay (lk_fx_sa hW1.1)) hW1.2 (fun j => (lk_fx_2 hW1.1 j).trans (lk_lay_2 j)) (by omega)
