theorem lk_fx_lays {σ : lk_N} {V T : lk_O} {S : List Nat} (h2 : 2 ∈ S) : lk_fx S σ (lk_lay σ V T) := fun o f i hn => by
  simp only [lk_lay, lk_sw]
  rw [if_neg (by rintro ⟨rfl, rfl⟩; exact hn ⟨rfl, h2⟩)]
/-- a run in thought: what it leaves of the model -/
theorem lk_fx_th {σ W : lk_N} {V T : lk_O} (h : lk_fx [0, 6, 7, 8, 9, 10, 11, 18, 19, 20, 21, 22, 23] (lk_lay σ V T) W) : lk_fx [2, 6, 7, 8, 9, 10, 11, 18, 19, 20, 21, 22, 23] σ (lk_sw W 1 0 (σ 1 0)) := fun o f i hn => by
  simp only [lk_sw]
  by_cases e : o = 1 ∧ f = 0
  · rw [if_pos e]; obtain ⟨rfl, rfl⟩ := e; rfl
  · rw [if_neg e]
    have h1 := h o f i (by
      rintro ⟨rfl, hf⟩
      refine hn ⟨rfl, ?_⟩
      rcases List.mem_cons.mp hf with rfl | hf
      · exact absurd ⟨rfl, rfl⟩ e
      · exact List.mem_cons_of_mem _ hf)
    rw [h1]
    exact lk_fx_lays (S := [2, 6, 7, 8, 9, 10, 11, 18, 19, 20, 21, 22, 23]) (by decide) o f i hn
theorem lk_kz_th {σ W : lk_N} {V T : lk_O} {R : Nat → Int32} (h : lk_kz (lk_lay σ V T) W none) : lk_kz σ (lk_sw W 1 0 R) none := ⟨h.1, h.2⟩
theorem lk_lay_w {σ W : lk_N} {V T : lk_O} (h : lk_fx [0, 6, 7, 8, 9, 10, 11, 18, 19, 20, 21, 22, 23] (lk_lay σ V T) W) (j : Nat) : W 1 2 j = lk_mw V T (σ 1 0) j := (h 1 2 j (by decide)).trans (lk_lay_2 j)
theorem lk_rnP_k {σ W : lk_N} {B : lk_O} {nf k : Nat} {r : (Nat × Nat × Int32) × lk_J} (h : lk_rnP 0 σ W B nf k r) : lk_kz σ W none := by simpa using h.2.2.2.2
theorem lk_all_pas {V V' : lk_O} {n k : Nat} {up : Bool} {z : Int32} (h : lk_all V n) (hk : k < n) (hz : 0 ≤ z.toInt) (hz9 : z.toInt ≤ 9) (hp : lk_pas V k up z = .inl V') : lk_all V' n :=
  ⟨lk_pas_cok hp hk h.1 hz hz9, lk_pas_rok h.2.1 (Nat.lt_of_lt_of_le hk h.1.2.2.1) hp, lk_rg_e (fun f i _ a b c => lk_near_456 (lk_pas_ok hp (h.1.2.2.2 k (Nat.lt_of_lt_of_le hk h.1.2.2.1)) hz hz9).1 f i a b c) h.2.2⟩
theorem lk_all_rr {R Z : Nat → Int32} {qb qa : Nat → Nat} {nb na n k ru : Nat} (hk : k < n) (hb : ∀ i, i < nb → 0 ≤ (Z (qb i)).toInt ∧ (Z (qb i)).toInt ≤ 9) (ha : ∀ i, i < na → 0 ≤ (Z (qa i)).toInt ∧ (Z (qa i)).toInt ≤ 9) :
    ∀ (m i j : Nat) (sp : Int32) (V T : lk_O), i ≤ nb → j ≤ na → m = nb + na - i - j → lk_all V n → lk_all (lk_rr R Z qb qa nb na k ru m i j sp V T).2.2.1 n
  | 0, _, _, _, V, T, _, _, _, h => h
  | m + 1, i, j, sp, V, T, hi, hj, hm, h => by
    unfold lk_rr
    rcases hf : lk_frb R qb qa nb na i j (V 5 k) ru with _ | _
    · have hj2 := lk_frbm_f hf (by omega)
      rcases hp : lk_pas V k false (Z (qa j)) with V' | q
      · simp only [hp]
        exact lk_all_rr hk hb ha m i (j + 1) _ _ _ hi (by omega) (by omega) (lk_all_pas h hk (ha j hj2).1 (ha j hj2).2 hp)
      · simp only [hp]; exact h
    · have hi2 := lk_frbm_t hf (by omega) hi
      rcases hp : lk_pas V k true (Z (qb i)) with V' | q
      · simp only [hp]
        exact lk_all_rr hk hb ha m (i + 1) j _ _ _ (by omega) hj (by omega) (lk_all_pas h hk (hb i hi2).1 (hb i hi2).2 hp)
      · simp only [hp]; exact h
theorem lk_all_run {B V T : lk_O} {nf n k ru : Nat} (hk : k < n) (hz : ∀ b, b < nf → 0 ≤ (B 1 b).toInt ∧ (B 1 b).toInt ≤ 9) (h : lk_all V n) : lk_all (lk_run B V T nf k ru).2.2.1 n :=
  lk_all_rr hk (fun i hi => hz _ (lk_gat_lt B (nI k) 1 nf i hi)) (fun i hi => hz _ (lk_gat_lt B (nI (k + 1)) 0 nf i hi)) _ 0 0 0 V T (Nat.zero_le _) (Nat.zero_le _) rfl h
theorem lk_ru3 {ru : Nat} (h : ru ≤ 3) : (0 : Int32) ≤ nI ru ∧ nI ru ≤ 3 := ⟨nI_pos' (by omega), nI_le (b := 3) h (by decide)⟩
theorem lk_lt_asy {a b : Int32} (h : a < b) (g : b < a) : False := Int32.lt_irrefl (Int32.lt_trans h g)
theorem lk_gt_of {a b : Int32} (h : ¬ a < b) (g : ¬ a = b) : b < a := by
  rcases Int32.lt_or_eq_of_le (Int32.not_lt.mp h) with q | q
  · exact q
  · exact absurd q.symm g
set_option maxHeartbeats 1000000 in
set_option maxRecDepth 100000 in
theorem tX9_ruled_out (l : Launch) (X : lk_G) (d : Nat) (σ : lk_N) (τ : lk_T) (V T : lk_O) (k : Int32) (hk : ¬ (0 ≤ k ∧ k ≤ V 0 0 - 1)) (r w : Int32) : lk_Mt l X mX9_ruled (d + 6) [lk_vr 1 0, lk_vi (k), lk_vi (r), lk_vi (w)] (lk_ms σ V T) τ (fun rr σ1 τ1 => rr = some (lk_vi (-2000000)) ∧ σ1 = (lk_ms σ V T) ∧ τ1 = τ) := by
  refine lk_met (L := [(0, lk_vr 1 0), (1, lk_vi (k)), (2, lk_vi (r)), (3, lk_vi (w))]) (by decide +kernel) (Nat.le_of_ble_eq_true rfl) rfl ?_
  obtain ⟨Q, hQ⟩ : ∃ Q : lk_Q, Q = fun rr σ1 τ1 => rr = some (lk_vi (-2000000)) ∧ σ1 = (lk_ms σ V T) ∧ τ1 = τ := ⟨_, rfl⟩
  rw [← hQ]
  refine lk_aload_n dX9_ruled_0 rfl rfl ?_
  refine lk_iload_n dX9_ruled_1 rfl rfl ?_
  refine lk_callV (o := 1) (as := [lk_vi (k)]) (S := []) dX9_ruled_2 rfl vX9_isLock rfl lX9_50 rfl rfl (Nat.le_of_ble_eq_true rfl) (tX9_isLock l X (d + 4) (lk_ms σ V T) τ (k := (k)) ) ?_
  refine lk_k3 ?_
  refine lk_cast (pc' := 5) (S' := [lk_vi (if (0 : Int32) ≤ (k) ∧ (k) ≤ (lk_ms σ V T) 1 0 53 - 1 then 1 else 0)]) rfl rfl rfl ?_
  refine lk_if_eqB (tgt := 26) dX9_ruled_5 (by decide) (fun hh1 => ?_) (fun hh1 => absurd hh1 (by rw [lk_r0 rfl rfl]; exact hk))
  refine lk_ldc dX9_ruled_26 kX9_157 ?_
  refine lk_iret .int dX9_ruled_28 rfl rfl ?_
  rw [hQ]
  exact ⟨by first | rfl | (simp [*]; done) | (simp_all; done) | grind, by first | rfl | (simp [*]; done), rfl⟩

set_option maxHeartbeats 1000000 in
set_option maxRecDepth 100000 in
theorem tX9_ruled_bad (l : Launch) (X : lk_G) (d : Nat) (σ : lk_N) (τ : lk_T) (V T : lk_O) (n k : Nat) (ha : lk_all V n) (hk : k < n) (r w : Int32) (h : ¬ ((0 ≤ r ∧ r ≤ 3) ∧ 0 ≤ w ∧ w ≤ 2)) : lk_Mt l X mX9_ruled (d + 6) [lk_vr 1 0, lk_vi (nI (k)), lk_vi (r), lk_vi (w)] (lk_ms σ V T) τ (fun rr σ1 τ1 => rr = some (lk_vi (-2000000)) ∧ σ1 = (lk_ms σ V T) ∧ τ1 = τ) := by
  refine lk_met (L := [(0, lk_vr 1 0), (1, lk_vi (nI (k))), (2, lk_vi (r)), (3, lk_vi (w))]) (by decide +kernel) (Nat.le_of_ble_eq_true rfl) rfl ?_
  obtain ⟨Q, hQ⟩ : ∃ Q : lk_Q, Q = fun rr σ1 τ1 => rr = some (lk_vi (-2000000)) ∧ σ1 = (lk_ms σ V T) ∧ τ1 = τ := ⟨_, rfl⟩
  rw [← hQ]
  refine lk_aload_n dX9_ruled_0 rfl rfl ?_
  refine lk_iload_n dX9_ruled_1 rfl rfl ?_
  refine lk_callV (o := 1) (as := [lk_vi (nI (k))]) (S := []) dX9_ruled_2 rfl vX9_isLock rfl lX9_50 rfl rfl (Nat.le_of_ble_eq_true rfl) (tX9_isLock l X (d + 4) (lk_ms σ V T) τ (k := (nI (k))) ) ?_
  refine lk_k3 ?_
  refine lk_cast (pc' := 5) (S' := [lk_vi (if (0 : Int32) ≤ (nI (k)) ∧ (nI (k)) ≤ (lk_ms σ V T) 1 0 53 - 1 then 1 else 0)]) rfl rfl rfl ?_
  refine lk_if_eqB (tgt := 26) dX9_ruled_5 (by decide) (fun hh1 => absurd hh1 (fun q => q (lk_isl ha.1 hk))) (fun hh1 => ?_)
  refine lk_iload_n dX9_ruled_8 rfl rfl ?_
  refine lk_iconst (v := 0) dX9_ruled_9 (by decide) ?_
  refine lk_iconst (v := 3) dX9_ruled_10 (by decide) ?_
  refine lk_callS (as := [lk_vi (r), lk_vi 0, lk_vi 3]) (S := []) dX9_ruled_11 rfl vX9_within rfl lX9_46 (Nat.le_of_ble_eq_true rfl) (tX9_within l X (d + 5) (lk_ms σ V T) τ (v := (r)) (a := (0 : Int32)) (b := (3 : Int32)) ) ?_
  refine lk_k3 ?_
  refine lk_cast (pc' := 14) (S' := [lk_vi (if (0 : Int32) ≤ (r) ∧ (r) ≤ (3 : Int32) then 1 else 0)]) rfl rfl rfl ?_
  refine lk_if_eqB (tgt := 26) dX9_ruled_14 (by decide) (fun hh2 => ?_) (fun hh2 => ?_)
  ·
    refine lk_ldc dX9_ruled_26 kX9_157 ?_
    refine lk_iret .int dX9_ruled_28 rfl rfl ?_
    rw [hQ]
    exact ⟨by first | rfl | (simp [*]; done) | (simp_all; done) | grind, by first | rfl | (simp [*]; done), rfl⟩
  ·
    refine lk_iload_n dX9_ruled_17 rfl rfl ?_
    refine lk_iconst (v := 0) dX9_ruled_18 (by decide) ?_
    refine lk_iconst (v := 2) dX9_ruled_19 (by decide) ?_
    refine lk_callS (as := [lk_vi (w), lk_vi 0, lk_vi 2]) (S := []) dX9_ruled_20 rfl vX9_within rfl lX9_46 (Nat.le_of_ble_eq_true rfl) (tX9_within l X (d + 5) (lk_ms σ V T) τ (v := (w)) (a := (0 : Int32)) (b := (2 : Int32)) ) ?_
    refine lk_k3 ?_
    refine lk_cast (pc' := 23) (S' := [lk_vi (if (0 : Int32) ≤ (w) ∧ (w) ≤ (2 : Int32) then 1 else 0)]) rfl rfl rfl ?_
    refine lk_if_neB (tgt := 29) dX9_ruled_23 (by decide) (fun hh3 => ?_) (fun hh3 => ?_)
    ·
      exact absurd ⟨by assumption, by assumption⟩ h
    ·
      refine lk_ldc dX9_ruled_26 kX9_157 ?_
      refine lk_iret .int dX9_ruled_28 rfl rfl ?_
      rw [hQ]
      exact ⟨by first | rfl | (simp [*]; done) | (simp_all; done) | grind, by first | rfl | (simp [*]; done), rfl⟩

set_option maxHeartbeats 1000000 in
set_option maxRecDepth 100000 in
theorem tX9_ruled_0 (l : Launch) (X : lk_G) (d : Nat) (σ : lk_N) (τ : lk_T) (V T : lk_O) (n k : Nat) (ha : lk_all V n) (hk : k < n) (B : lk_O) (nf : Nat) (hn : σ 1 0 114 = nI nf) (hn12 : nf ≤ 12) (hB : lk_bv σ B nf) (hz : ∀ b, b < nf → 0 ≤ (B 1 b).toInt ∧ (B 1 b).toInt ≤ 9) (ru : Nat) (hru : ru ≤ 3) : lk_Mt l X mX9_ruled (d + 6) [lk_vr 1 0, lk_vi (nI (k)), lk_vi (nI (ru)), lk_vi 0] (lk_ms σ V T) τ (fun rr σ1 τ1 => rr = some (lk_vi ((lk_run B V T nf k ru).1.2.2)) ∧ τ1 = τ ∧ ∃ W : lk_N, σ1 = lk_ms W V T ∧ (lk_fx [2, 6, 7, 8, 9, 10, 11, 18, 19, 20, 21, 22, 23] σ W ∧ lk_kz σ W none)) := by
  refine lk_met (L := [(0, lk_vr 1 0), (1, lk_vi (nI (k))), (2, lk_vi (nI (ru))), (3, lk_vi 0)]) (by decide +kernel) (Nat.le_of_ble_eq_true rfl) rfl ?_
  obtain ⟨Q, hQ⟩ : ∃ Q : lk_Q, Q = fun rr σ1 τ1 => rr = some (lk_vi ((lk_run B V T nf k ru).1.2.2)) ∧ τ1 = τ ∧ ∃ W : lk_N, σ1 = lk_ms W V T ∧ (lk_fx [2, 6, 7, 8, 9, 10, 11, 18, 19, 20, 21, 22, 23] σ W ∧ lk_kz σ W none) := ⟨_, rfl⟩
  rw [← hQ]
  have hk6 : k < 6 := Nat.lt_of_lt_of_le hk ha.1.2.2.1
  refine lk_aload_n dX9_ruled_0 rfl rfl ?_
  refine lk_iload_n dX9_ruled_1 rfl rfl ?_
  refine lk_callV (o := 1) (as := [lk_vi (nI (k))]) (S := []) dX9_ruled_2 rfl vX9_isLock rfl lX9_50 rfl rfl (Nat.le_of_ble_eq_true rfl) (tX9_isLock l X (d + 4) (lk_ms σ V T) τ (k := (nI (k))) ) ?_
  refine lk_k3 ?_
  refine lk_cast (pc' := 5) (S' := [lk_vi (if (0 : Int32) ≤ (nI (k)) ∧ (nI (k)) ≤ (lk_ms σ V T) 1 0 53 - 1 then 1 else 0)]) rfl rfl rfl ?_
  refine lk_if_eqB (tgt := 26) dX9_ruled_5 (by decide) (fun hh1 => absurd hh1 (fun q => q (lk_isl ha.1 hk))) (fun hh1 => ?_)
  refine lk_iload_n dX9_ruled_8 rfl rfl ?_
  refine lk_iconst (v := 0) dX9_ruled_9 (by decide) ?_
  refine lk_iconst (v := 3) dX9_ruled_10 (by decide) ?_
  refine lk_callS (as := [lk_vi (nI (ru)), lk_vi 0, lk_vi 3]) (S := []) dX9_ruled_11 rfl vX9_within rfl lX9_46 (Nat.le_of_ble_eq_true rfl) (tX9_within l X (d + 5) (lk_ms σ V T) τ (v := (nI (ru))) (a := (0 : Int32)) (b := (3 : Int32)) ) ?_
  refine lk_k3 ?_
  refine lk_cast (pc' := 14) (S' := [lk_vi (if (0 : Int32) ≤ (nI (ru)) ∧ (nI (ru)) ≤ (3 : Int32) then 1 else 0)]) rfl rfl rfl ?_
  refine lk_if_eqB (tgt := 26) dX9_ruled_14 (by decide) (fun hh2 => absurd hh2 (fun q => q (lk_ru3 hru))) (fun hh2 => ?_)
  refine lk_iload_n dX9_ruled_17 rfl rfl ?_
  refine lk_iconst (v := 0) dX9_ruled_18 (by decide) ?_
  refine lk_iconst (v := 2) dX9_ruled_19 (by decide) ?_
  refine lk_callS (as := [lk_vi 0, lk_vi 0, lk_vi 2]) (S := []) dX9_ruled_20 rfl vX9_within rfl lX9_46 (Nat.le_of_ble_eq_true rfl) (tX9_within l X (d + 5) (lk_ms σ V T) τ (v := (0 : Int32)) (a := (0 : Int32)) (b := (2 : Int32)) ) ?_
  refine lk_k3 ?_
  refine lk_cast (pc' := 23) (S' := [lk_vi (if (0 : Int32) ≤ (0 : Int32) ∧ (0 : Int32) ≤ (2 : Int32) then 1 else 0)]) rfl rfl rfl ?_
  refine lk_if_neB (tgt := 29) dX9_ruled_23 (by decide) (fun hh3 => ?_) (fun hh3 => absurd hh3 (fun q => q (by decide)))
  refine lk_aload_n dX9_ruled_29 rfl rfl ?_
  refine lk_getR (f := 0) dX9_ruled_30 rfl fX9_9 (by decide) (by decide) ?_
  refine lk_aload_n dX9_ruled_33 rfl rfl ?_
  refine lk_getR (f := 2) dX9_ruled_34 rfl fX9_18 (by decide) (by decide) ?_
  refine lk_callS (as := [lk_vr 1 1, lk_vr 1 3]) (S := []) dX9_ruled_37 rfl vX9_pours rfl lX9_105 (Nat.le_of_ble_eq_true rfl) (tX9_pours_02ms l X (d + 5) σ τ (V := V) (T := T) ) ?_
  refine lk_k3 ?_
  refine lk_cast (pc' := 40) (S' := []) rfl rfl rfl ?_
  refine lk_aload_n dX9_ruled_40 rfl rfl ?_
  refine lk_iload_n dX9_ruled_41 rfl rfl ?_
  refine lk_iload_n dX9_ruled_42 rfl rfl ?_
  refine lk_iconst (v := 0) dX9_ruled_43 (by decide) ?_
  refine lk_callV (o := 1) (as := [lk_vi (nI (k)), lk_vi (nI (ru)), lk_vi 0]) (S := []) dX9_ruled_44 rfl vX9_runs rfl lX9_205 rfl rfl (Nat.le_of_ble_eq_true rfl) (tX9_runs0 l X d (lk_lay σ V T) τ (k := (k)) (ru := (ru)) (V := V) (T := T) (n := n) (B := B) (nf := nf) (hV := ha.1) (hr0 := ha.2.1) (hk := hk) (hn12 := hn12) (hz := hz) (hn := hn) (hB := lk_bv_e rfl hB) (hru := hru)) ?_
  refine lk_k4 (fun W1 hW1 => ?_)
  refine lk_cast (pc' := 47) (S' := []) rfl rfl rfl ?_
  refine lk_sg (σ' := (lk_ms W1 (lk_run B V T nf k (ru)).2.2.1 T)) rfl ?_
  refine lk_aload_n dX9_ruled_47 rfl rfl ?_
  refine lk_getR (f := 0) dX9_ruled_48 rfl fX9_9 (by decide) (by decide) ?_
  refine lk_bipush (v := 18) dX9_ruled_51 (by decide) ?_
  refine lk_iload_n dX9_ruled_53 rfl rfl ?_
  refine lk_iaddN (a := 18) (b := k) dX9_ruled_54 ?_
  refine lk_ialdN (f := 0) (i := 18 + k) dX9_ruled_55 rfl (by decide) rfl (by omega) (by decide) ?_
  refine lk_eqtop (y := ((lk_run B V T nf k (ru)).2.2.1 5 (k))) (lk_r5 (by omega) (by omega)) ?_
  refine lk_istore (L' := [(0, lk_vr 1 0), (1, lk_vi (nI (k))), (2, lk_vi (nI (ru))), (3, lk_vi 0), (4, lk_vi ((lk_run B V T nf k (ru)).2.2.1 5 (k)))]) dX9_ruled_56 (by decide +kernel) rfl ?_
  refine lk_aload_n dX9_ruled_58 rfl rfl ?_
  refine lk_getR (f := 2) dX9_ruled_59 rfl fX9_18 (by decide) (by decide) ?_
  refine lk_aload_n dX9_ruled_62 rfl rfl ?_
  refine lk_getR (f := 0) dX9_ruled_63 rfl fX9_9 (by decide) (by decide) ?_
  refine lk_callS (as := [lk_vr 1 3, lk_vr 1 1]) (S := []) dX9_ruled_66 rfl vX9_pours rfl lX9_105 (Nat.le_of_ble_eq_true rfl) (tX9_pours_20ms l X (d + 5) W1 τ (V := (lk_run B V T nf k (ru)).2.2.1) (T := T) (V0 := V) (T0 := T) (R := σ 1 0) (hA := fun j _ => lk_lay_w hW1.1 j)) ?_
  refine lk_k3 ?_
  refine lk_cast (pc' := 69) (S' := []) rfl rfl rfl ?_
  refine lk_iload_n dX9_ruled_69 rfl rfl ?_
  refine lk_if_ne (tgt := 80) dX9_ruled_70 (by decide) (fun hh4 => absurd hh4 (by decide)) (fun hh4 => ?_)
  refine lk_aload_n dX9_ruled_73 rfl rfl ?_
  refine lk_getIv (v := ((lk_run B V T nf k ru).1.2.2)) (f := 23) dX9_ruled_74 rfl fX9_199 (by decide) (by decide) ((lk_rf (by decide)).trans hW1.2.2.2.1) ?_
  refine lk_goto (tgt := 94) dX9_ruled_77 (by decide) ?_
  refine lk_iret .int dX9_ruled_94 rfl rfl ?_
  rw [hQ]
  exact ⟨rfl, rfl, lk_sw W1 1 0 (σ 1 0), rfl, lk_fx_th hW1.1, lk_kz_th (lk_rnP_k hW1)⟩

set_option maxHeartbeats 1000000 in
set_option maxRecDepth 100000 in
theorem tX9_ruled_1 (l : Launch) (X : lk_G) (d : Nat) (σ : lk_N) (τ : lk_T) (V T : lk_O) (n k : Nat) (ha : lk_all V n) (hk : k < n) (B : lk_O) (nf : Nat) (hn : σ 1 0 114 = nI nf) (hn12 : nf ≤ 12) (hB : lk_bv σ B nf) (hz : ∀ b, b < nf → 0 ≤ (B 1 b).toInt ∧ (B 1 b).toInt ≤ 9) (ru : Nat) (hru : ru ≤ 3) : lk_Mt l X mX9_ruled (d + 6) [lk_vr 1 0, lk_vi (nI (k)), lk_vi (nI (ru)), lk_vi 1] (lk_ms σ V T) τ (fun rr σ1 τ1 => rr = some (lk_vi (nI ((lk_run B V T nf k ru).1.1 + (lk_run B V T nf k ru).1.2.1))) ∧ τ1 = τ ∧ ∃ W : lk_N, σ1 = lk_ms W V T ∧ (lk_fx [2, 6, 7, 8, 9, 10, 11, 18, 19, 20, 21, 22, 23] σ W ∧ lk_kz σ W none)) := by
  refine lk_met (L := [(0, lk_vr 1 0), (1, lk_vi (nI (k))), (2, lk_vi (nI (ru))), (3, lk_vi 1)]) (by decide +kernel) (Nat.le_of_ble_eq_true rfl) rfl ?_
  obtain ⟨Q, hQ⟩ : ∃ Q : lk_Q, Q = fun rr σ1 τ1 => rr = some (lk_vi (nI ((lk_run B V T nf k ru).1.1 + (lk_run B V T nf k ru).1.2.1))) ∧ τ1 = τ ∧ ∃ W : lk_N, σ1 = lk_ms W V T ∧ (lk_fx [2, 6, 7, 8, 9, 10, 11, 18, 19, 20, 21, 22, 23] σ W ∧ lk_kz σ W none) := ⟨_, rfl⟩
  rw [← hQ]
  have hk6 : k < 6 := Nat.lt_of_lt_of_le hk ha.1.2.2.1
  refine lk_aload_n dX9_ruled_0 rfl rfl ?_
  refine lk_iload_n dX9_ruled_1 rfl rfl ?_
  refine lk_callV (o := 1) (as := [lk_vi (nI (k))]) (S := []) dX9_ruled_2 rfl vX9_isLock rfl lX9_50 rfl rfl (Nat.le_of_ble_eq_true rfl) (tX9_isLock l X (d + 4) (lk_ms σ V T) τ (k := (nI (k))) ) ?_
  refine lk_k3 ?_
  refine lk_cast (pc' := 5) (S' := [lk_vi (if (0 : Int32) ≤ (nI (k)) ∧ (nI (k)) ≤ (lk_ms σ V T) 1 0 53 - 1 then 1 else 0)]) rfl rfl rfl ?_
  refine lk_if_eqB (tgt := 26) dX9_ruled_5 (by decide) (fun hh1 => absurd hh1 (fun q => q (lk_isl ha.1 hk))) (fun hh1 => ?_)
  refine lk_iload_n dX9_ruled_8 rfl rfl ?_
  refine lk_iconst (v := 0) dX9_ruled_9 (by decide) ?_
  refine lk_iconst (v := 3) dX9_ruled_10 (by decide) ?_
  refine lk_callS (as := [lk_vi (nI (ru)), lk_vi 0, lk_vi 3]) (S := []) dX9_ruled_11 rfl vX9_within rfl lX9_46 (Nat.le_of_ble_eq_true rfl) (tX9_within l X (d + 5) (lk_ms σ V T) τ (v := (nI (ru))) (a := (0 : Int32)) (b := (3 : Int32)) ) ?_
  refine lk_k3 ?_
  refine lk_cast (pc' := 14) (S' := [lk_vi (if (0 : Int32) ≤ (nI (ru)) ∧ (nI (ru)) ≤ (3 : Int32) then 1 else 0)]) rfl rfl rfl ?_
  refine lk_if_eqB (tgt := 26) dX9_ruled_14 (by decide) (fun hh2 => absurd hh2 (fun q => q (lk_ru3 hru))) (fun hh2 => ?_)
  refine lk_iload_n dX9_ruled_17 rfl rfl ?_
  refine lk_iconst (v := 0) dX9_ruled_18 (by decide) ?_
  refine lk_iconst (v := 2) dX9_ruled_19 (by decide) ?_
  refine lk_callS (as := [lk_vi 1, lk_vi 0, lk_vi 2]) (S := []) dX9_ruled_20 rfl vX9_within rfl lX9_46 (Nat.le_of_ble_eq_true rfl) (tX9_within l X (d + 5) (lk_ms σ V T) τ (v := (1 : Int32)) (a := (0 : Int32)) (b := (2 : Int32)) ) ?_
  refine lk_k3 ?_
  refine lk_cast (pc' := 23) (S' := [lk_vi (if (0 : Int32) ≤ (1 : Int32) ∧ (1 : Int32) ≤ (2 : Int32) then 1 else 0)]) rfl rfl rfl ?_
  refine lk_if_neB (tgt := 29) dX9_ruled_23 (by decide) (fun hh3 => ?_) (fun hh3 => absurd hh3 (fun q => q (by decide)))
  refine lk_aload_n dX9_ruled_29 rfl rfl ?_
  refine lk_getR (f := 0) dX9_ruled_30 rfl fX9_9 (by decide) (by decide) ?_
  refine lk_aload_n dX9_ruled_33 rfl rfl ?_
  refine lk_getR (f := 2) dX9_ruled_34 rfl fX9_18 (by decide) (by decide) ?_
  refine lk_callS (as := [lk_vr 1 1, lk_vr 1 3]) (S := []) dX9_ruled_37 rfl vX9_pours rfl lX9_105 (Nat.le_of_ble_eq_true rfl) (tX9_pours_02ms l X (d + 5) σ τ (V := V) (T := T) ) ?_
  refine lk_k3 ?_
  refine lk_cast (pc' := 40) (S' := []) rfl rfl rfl ?_
  refine lk_aload_n dX9_ruled_40 rfl rfl ?_
  refine lk_iload_n dX9_ruled_41 rfl rfl ?_
  refine lk_iload_n dX9_ruled_42 rfl rfl ?_
  refine lk_iconst (v := 0) dX9_ruled_43 (by decide) ?_
  refine lk_callV (o := 1) (as := [lk_vi (nI (k)), lk_vi (nI (ru)), lk_vi 0]) (S := []) dX9_ruled_44 rfl vX9_runs rfl lX9_205 rfl rfl (Nat.le_of_ble_eq_true rfl) (tX9_runs0 l X d (lk_lay σ V T) τ (k := (k)) (ru := (ru)) (V := V) (T := T) (n := n) (B := B) (nf := nf) (hV := ha.1) (hr0 := ha.2.1) (hk := hk) (hn12 := hn12) (hz := hz) (hn := hn) (hB := lk_bv_e rfl hB) (hru := hru)) ?_
  refine lk_k4 (fun W1 hW1 => ?_)
  refine lk_cast (pc' := 47) (S' := []) rfl rfl rfl ?_
  refine lk_sg (σ' := (lk_ms W1 (lk_run B V T nf k (ru)).2.2.1 T)) rfl ?_
  refine lk_aload_n dX9_ruled_47 rfl rfl ?_
  refine lk_getR (f := 0) dX9_ruled_48 rfl fX9_9 (by decide) (by decide) ?_
  refine lk_bipush (v := 18) dX9_ruled_51 (by decide) ?_
  refine lk_iload_n dX9_ruled_53 rfl rfl ?_
  refine lk_iaddN (a := 18) (b := k) dX9_ruled_54 ?_
  refine lk_ialdN (f := 0) (i := 18 + k) dX9_ruled_55 rfl (by decide) rfl (by omega) (by decide) ?_
  refine lk_eqtop (y := ((lk_run B V T nf k (ru)).2.2.1 5 (k))) (lk_r5 (by omega) (by omega)) ?_
  refine lk_istore (L' := [(0, lk_vr 1 0), (1, lk_vi (nI (k))), (2, lk_vi (nI (ru))), (3, lk_vi 1), (4, lk_vi ((lk_run B V T nf k (ru)).2.2.1 5 (k)))]) dX9_ruled_56 (by decide +kernel) rfl ?_
  refine lk_aload_n dX9_ruled_58 rfl rfl ?_
  refine lk_getR (f := 2) dX9_ruled_59 rfl fX9_18 (by decide) (by decide) ?_
  refine lk_aload_n dX9_ruled_62 rfl rfl ?_
  refine lk_getR (f := 0) dX9_ruled_63 rfl fX9_9 (by decide) (by decide) ?_
  refine lk_callS (as := [lk_vr 1 3, lk_vr 1 1]) (S := []) dX9_ruled_66 rfl vX9_pours rfl lX9_105 (Nat.le_of_ble_eq_true rfl) (tX9_pours_20ms l X (d + 5) W1 τ (V := (lk_run B V T nf k (ru)).2.2.1) (T := T) (V0 := V) (T0 := T) (R := σ 1 0) (hA := fun j _ => lk_lay_w hW1.1 j)) ?_
  refine lk_k3 ?_
  refine lk_cast (pc' := 69) (S' := []) rfl rfl rfl ?_
  refine lk_iload_n dX9_ruled_69 rfl rfl ?_
  refine lk_if_ne (tgt := 80) dX9_ruled_70 (by decide) (fun hh4 => ?_) (fun hh4 => absurd hh4 (by decide))
  refine lk_iload_n dX9_ruled_80 rfl rfl ?_
  refine lk_iconst (v := 1) dX9_ruled_81 (by decide) ?_
  refine lk_icmp_neN (a := 1) (b := 1) (tgt := 92) dX9_ruled_82 (by decide) (by omega) (by omega) (fun hh5 => absurd hh5 (by decide)) (fun hh5 => ?_)
  refine lk_aload_n dX9_ruled_85 rfl rfl ?_
  refine lk_getIv (v := (nI ((lk_run B V T nf k ru).1.1 + (lk_run B V T nf k ru).1.2.1))) (f := 22) dX9_ruled_86 rfl fX9_196 (by decide) (by decide) ((lk_rf (by decide)).trans hW1.2.2.1) ?_
  refine lk_goto (tgt := 94) dX9_ruled_89 (by decide) ?_
  refine lk_iret .int dX9_ruled_94 rfl rfl ?_
  rw [hQ]
  exact ⟨rfl, rfl, lk_sw W1 1 0 (σ 1 0), rfl, lk_fx_th hW1.1, lk_kz_th (lk_rnP_k hW1)⟩

set_option maxHeartbeats 1000000 in
set_option maxRecDepth 100000 in
theorem tX9_ruled_2 (l : Launch) (X : lk_G) (d : Nat) (σ : lk_N) (τ : lk_T) (V T : lk_O) (n k : Nat) (ha : lk_all V n) (hk : k < n) (B : lk_O) (nf : Nat) (hn : σ 1 0 114 = nI nf) (hn12 : nf ≤ 12) (hB : lk_bv σ B nf) (hz : ∀ b, b < nf → 0 ≤ (B 1 b).toInt ∧ (B 1 b).toInt ≤ 9) (ru : Nat) (hru : ru ≤ 3) : lk_Mt l X mX9_ruled (d + 6) [lk_vr 1 0, lk_vi (nI (k)), lk_vi (nI (ru)), lk_vi 2] (lk_ms σ V T) τ (fun rr σ1 τ1 => rr = some (lk_vi (if (lk_run B V T nf k ru).2.2.1 5 k = 0 then 0 else 1)) ∧ τ1 = τ ∧ ∃ W : lk_N, σ1 = lk_ms W V T ∧ (lk_fx [2, 6, 7, 8, 9, 10, 11, 18, 19, 20, 21, 22, 23] σ W ∧ lk_kz σ W none)) := by
  refine lk_met (L := [(0, lk_vr 1 0), (1, lk_vi (nI (k))), (2, lk_vi (nI (ru))), (3, lk_vi 2)]) (by decide +kernel) (Nat.le_of_ble_eq_true rfl) rfl ?_
  obtain ⟨Q, hQ⟩ : ∃ Q : lk_Q, Q = fun rr σ1 τ1 => rr = some (lk_vi (if (lk_run B V T nf k ru).2.2.1 5 k = 0 then 0 else 1)) ∧ τ1 = τ ∧ ∃ W : lk_N, σ1 = lk_ms W V T ∧ (lk_fx [2, 6, 7, 8, 9, 10, 11, 18, 19, 20, 21, 22, 23] σ W ∧ lk_kz σ W none) := ⟨_, rfl⟩
  rw [← hQ]
  have hk6 : k < 6 := Nat.lt_of_lt_of_le hk ha.1.2.2.1
  refine lk_aload_n dX9_ruled_0 rfl rfl ?_
  refine lk_iload_n dX9_ruled_1 rfl rfl ?_
  refine lk_callV (o := 1) (as := [lk_vi (nI (k))]) (S := []) dX9_ruled_2 rfl vX9_isLock rfl lX9_50 rfl rfl (Nat.le_of_ble_eq_true rfl) (tX9_isLock l X (d + 4) (lk_ms σ V T) τ (k := (nI (k))) ) ?_
  refine lk_k3 ?_
  refine lk_cast (pc' := 5) (S' := [lk_vi (if (0 : Int32) ≤ (nI (k)) ∧ (nI (k)) ≤ (lk_ms σ V T) 1 0 53 - 1 then 1 else 0)]) rfl rfl rfl ?_
  refine lk_if_eqB (tgt := 26) dX9_ruled_5 (by decide) (fun hh1 => absurd hh1 (fun q => q (lk_isl ha.1 hk))) (fun hh1 => ?_)
  refine lk_iload_n dX9_ruled_8 rfl rfl ?_
  refine lk_iconst (v := 0) dX9_ruled_9 (by decide) ?_
  refine lk_iconst (v := 3) dX9_ruled_10 (by decide) ?_
  refine lk_callS (as := [lk_vi (nI (ru)), lk_vi 0, lk_vi 3]) (S := []) dX9_ruled_11 rfl vX9_within rfl lX9_46 (Nat.le_of_ble_eq_true rfl) (tX9_within l X (d + 5) (lk_ms σ V T) τ (v := (nI (ru))) (a := (0 : Int32)) (b := (3 : Int32)) ) ?_
  refine lk_k3 ?_
  refine lk_cast (pc' := 14) (S' := [lk_vi (if (0 : Int32) ≤ (nI (ru)) ∧ (nI (ru)) ≤ (3 : Int32) then 1 else 0)]) rfl rfl rfl ?_
  refine lk_if_eqB (tgt := 26) dX9_ruled_14 (by decide) (fun hh2 => absurd hh2 (fun q => q (lk_ru3 hru))) (fun hh2 => ?_)
  refine lk_iload_n dX9_ruled_17 rfl rfl ?_
  refine lk_iconst (v := 0) dX9_ruled_18 (by decide) ?_
  refine lk_iconst (v := 2) dX9_ruled_19 (by decide) ?_
  refine lk_callS (as := [lk_vi 2, lk_vi 0, lk_vi 2]) (S := []) dX9_ruled_20 rfl vX9_within rfl lX9_46 (Nat.le_of_ble_eq_true rfl) (tX9_within l X (d + 5) (lk_ms σ V T) τ (v := (2 : Int32)) (a := (0 : Int32)) (b := (2 : Int32)) ) ?_
  refine lk_k3 ?_
  refine lk_cast (pc' := 23) (S' := [lk_vi (if (0 : Int32) ≤ (2 : Int32) ∧ (2 : Int32) ≤ (2 : Int32) then 1 else 0)]) rfl rfl rfl ?_
  refine lk_if_neB (tgt := 29) dX9_ruled_23 (by decide) (fun hh3 => ?_) (fun hh3 => absurd hh3 (fun q => q (by decide)))
  refine lk_aload_n dX9_ruled_29 rfl rfl ?_
  refine lk_getR (f := 0) dX9_ruled_30 rfl fX9_9 (by decide) (by decide) ?_
  refine lk_aload_n dX9_ruled_33 rfl rfl ?_
  refine lk_getR (f := 2) dX9_ruled_34 rfl fX9_18 (by decide) (by decide) ?_
  refine lk_callS (as := [lk_vr 1 1, lk_vr 1 3]) (S := []) dX9_ruled_37 rfl vX9_pours rfl lX9_105 (Nat.le_of_ble_eq_true rfl) (tX9_pours_02ms l X (d + 5) σ τ (V := V) (T := T) ) ?_
  refine lk_k3 ?_
  refine lk_cast (pc' := 40) (S' := []) rfl rfl rfl ?_
  refine lk_aload_n dX9_ruled_40 rfl rfl ?_
  refine lk_iload_n dX9_ruled_41 rfl rfl ?_
  refine lk_iload_n dX9_ruled_42 rfl rfl ?_
  refine lk_iconst (v := 0) dX9_ruled_43 (by decide) ?_
  refine lk_callV (o := 1) (as := [lk_vi (nI (k)), lk_vi (nI (ru)), lk_vi 0]) (S := []) dX9_ruled_44 rfl vX9_runs rfl lX9_205 rfl rfl (Nat.le_of_ble_eq_true rfl) (tX9_runs0 l X d (lk_lay σ V T) τ (k := (k)) (ru := (ru)) (V := V) (T := T) (n := n) (B := B) (nf := nf) (hV := ha.1) (hr0 := ha.2.1) (hk := hk) (hn12 := hn12) (hz := hz) (hn := hn) (hB := lk_bv_e rfl hB) (hru := hru)) ?_
  refine lk_k4 (fun W1 hW1 => ?_)
  refine lk_cast (pc' := 47) (S' := []) rfl rfl rfl ?_
  refine lk_sg (σ' := (lk_ms W1 (lk_run B V T nf k (ru)).2.2.1 T)) rfl ?_
  refine lk_aload_n dX9_ruled_47 rfl rfl ?_
  refine lk_getR (f := 0) dX9_ruled_48 rfl fX9_9 (by decide) (by decide) ?_
  refine lk_bipush (v := 18) dX9_ruled_51 (by decide) ?_
  refine lk_iload_n dX9_ruled_53 rfl rfl ?_
  refine lk_iaddN (a := 18) (b := k) dX9_ruled_54 ?_
  refine lk_ialdN (f := 0) (i := 18 + k) dX9_ruled_55 rfl (by decide) rfl (by omega) (by decide) ?_
  refine lk_eqtop (y := ((lk_run B V T nf k (ru)).2.2.1 5 (k))) (lk_r5 (by omega) (by omega)) ?_
  refine lk_istore (L' := [(0, lk_vr 1 0), (1, lk_vi (nI (k))), (2, lk_vi (nI (ru))), (3, lk_vi 2), (4, lk_vi ((lk_run B V T nf k (ru)).2.2.1 5 (k)))]) dX9_ruled_56 (by decide +kernel) rfl ?_
  refine lk_aload_n dX9_ruled_58 rfl rfl ?_
  refine lk_getR (f := 2) dX9_ruled_59 rfl fX9_18 (by decide) (by decide) ?_
  refine lk_aload_n dX9_ruled_62 rfl rfl ?_
  refine lk_getR (f := 0) dX9_ruled_63 rfl fX9_9 (by decide) (by decide) ?_
  refine lk_callS (as := [lk_vr 1 3, lk_vr 1 1]) (S := []) dX9_ruled_66 rfl vX9_pours rfl lX9_105 (Nat.le_of_ble_eq_true rfl) (tX9_pours_20ms l X (d + 5) W1 τ (V := (lk_run B V T nf k (ru)).2.2.1) (T := T) (V0 := V) (T0 := T) (R := σ 1 0) (hA := fun j _ => lk_lay_w hW1.1 j)) ?_
  refine lk_k3 ?_
  refine lk_cast (pc' := 69) (S' := []) rfl rfl rfl ?_
  refine lk_iload_n dX9_ruled_69 rfl rfl ?_
  refine lk_if_ne (tgt := 80) dX9_ruled_70 (by decide) (fun hh4 => ?_) (fun hh4 => absurd hh4 (by decide))
  refine lk_iload_n dX9_ruled_80 rfl rfl ?_
  refine lk_iconst (v := 1) dX9_ruled_81 (by decide) ?_
  refine lk_icmp_neN (a := 2) (b := 1) (tgt := 92) dX9_ruled_82 (by decide) (by omega) (by omega) (fun hh5 => ?_) (fun hh5 => absurd hh5 (by decide))
  refine lk_iload dX9_ruled_92 rfl ?_
  refine lk_iret .int dX9_ruled_94 rfl rfl ?_
  rw [hQ]
  refine ⟨?_, rfl, lk_sw W1 1 0 (σ 1 0), rfl, lk_fx_th hW1.1, lk_kz_th (lk_rnP_k hW1)⟩
  rcases ((lk_all_run hk hz ha).1.2.2.2 k hk6).2.2.2.2.2.2 with e | e <;> rw [e] <;> rfl

set_option maxHeartbeats 1000000 in
set_option maxRecDepth 100000 in
theorem tX9_run_out (l : Launch) (X : lk_G) (d : Nat) (σ : lk_N) (τ : lk_T) (V T : lk_O) (k : Int32) (hk : ¬ (0 ≤ k ∧ k ≤ V 0 0 - 1)) (r : Int32) : lk_Mt l X mX9_run (d + 6) [lk_vr 1 0, lk_vi (k), lk_vi (r)] (lk_ms σ V T) τ (fun rr σ1 τ1 => rr = some (lk_vi (-1)) ∧ σ1 = (lk_ms σ V T) ∧ τ1 = τ) := by
  refine lk_met (L := [(0, lk_vr 1 0), (1, lk_vi (k)), (2, lk_vi (r))]) (by decide +kernel) (Nat.le_of_ble_eq_true rfl) rfl ?_
  obtain ⟨Q, hQ⟩ : ∃ Q : lk_Q, Q = fun rr σ1 τ1 => rr = some (lk_vi (-1)) ∧ σ1 = (lk_ms σ V T) ∧ τ1 = τ := ⟨_, rfl⟩
  rw [← hQ]
  refine lk_aload_n dX9_run_0 rfl rfl ?_
  refine lk_iload_n dX9_run_1 rfl rfl ?_
  refine lk_callV (o := 1) (as := [lk_vi (k)]) (S := []) dX9_run_2 rfl vX9_isLock rfl lX9_50 rfl rfl (Nat.le_of_ble_eq_true rfl) (tX9_isLock l X (d + 4) (lk_ms σ V T) τ (k := (k)) ) ?_
  refine lk_k3 ?_
  refine lk_cast (pc' := 5) (S' := [lk_vi (if (0 : Int32) ≤ (k) ∧ (k) ≤ (lk_ms σ V T) 1 0 53 - 1 then 1 else 0)]) rfl rfl rfl ?_
  refine lk_if_eqB (tgt := 17) dX9_run_5 (by decide) (fun hh1 => ?_) (fun hh1 => absurd hh1 (by rw [lk_r0 rfl rfl]; exact hk))
  refine lk_iconst (v := (-1)) dX9_run_17 (by decide) ?_
  refine lk_iret .int dX9_run_18 rfl rfl ?_
  rw [hQ]
  exact ⟨by first | rfl | (simp [*]; done) | (simp_all; done) | grind, by first | rfl | (simp [*]; done), rfl⟩

set_option maxHeartbeats 1000000 in
set_option maxRecDepth 100000 in
theorem tX9_run_bad (l : Launch) (X : lk_G) (d : Nat) (σ : lk_N) (τ : lk_T) (V T : lk_O) (n k : Nat) (ha : lk_all V n) (hk : k < n) (r : Int32) (h : ¬ (0 ≤ r ∧ r ≤ 3)) : lk_Mt l X mX9_run (d + 6) [lk_vr 1 0, lk_vi (nI (k)), lk_vi (r)] (lk_ms σ V T) τ (fun rr σ1 τ1 => rr = some (lk_vi (-1)) ∧ σ1 = (lk_ms σ V T) ∧ τ1 = τ) := by
  refine lk_met (L := [(0, lk_vr 1 0), (1, lk_vi (nI (k))), (2, lk_vi (r))]) (by decide +kernel) (Nat.le_of_ble_eq_true rfl) rfl ?_
  obtain ⟨Q, hQ⟩ : ∃ Q : lk_Q, Q = fun rr σ1 τ1 => rr = some (lk_vi (-1)) ∧ σ1 = (lk_ms σ V T) ∧ τ1 = τ := ⟨_, rfl⟩
  rw [← hQ]
  refine lk_aload_n dX9_run_0 rfl rfl ?_
  refine lk_iload_n dX9_run_1 rfl rfl ?_
  refine lk_callV (o := 1) (as := [lk_vi (nI (k))]) (S := []) dX9_run_2 rfl vX9_isLock rfl lX9_50 rfl rfl (Nat.le_of_ble_eq_true rfl) (tX9_isLock l X (d + 4) (lk_ms σ V T) τ (k := (nI (k))) ) ?_
  refine lk_k3 ?_
  refine lk_cast (pc' := 5) (S' := [lk_vi (if (0 : Int32) ≤ (nI (k)) ∧ (nI (k)) ≤ (lk_ms σ V T) 1 0 53 - 1 then 1 else 0)]) rfl rfl rfl ?_
  refine lk_if_eqB (tgt := 17) dX9_run_5 (by decide) (fun hh1 => absurd hh1 (fun q => q (lk_isl ha.1 hk))) (fun hh1 => ?_)
  refine lk_iload_n dX9_run_8 rfl rfl ?_
  refine lk_iconst (v := 0) dX9_run_9 (by decide) ?_
  refine lk_iconst (v := 3) dX9_run_10 (by decide) ?_
  refine lk_callS (as := [lk_vi (r), lk_vi 0, lk_vi 3]) (S := []) dX9_run_11 rfl vX9_within rfl lX9_46 (Nat.le_of_ble_eq_true rfl) (tX9_within l X (d + 5) (lk_ms σ V T) τ (v := (r)) (a := (0 : Int32)) (b := (3 : Int32)) ) ?_
  refine lk_k3 ?_
  refine lk_cast (pc' := 14) (S' := [lk_vi (if (0 : Int32) ≤ (r) ∧ (r) ≤ (3 : Int32) then 1 else 0)]) rfl rfl rfl ?_
  refine lk_if_neB (tgt := 19) dX9_run_14 (by decide) (fun hh2 => absurd hh2 h) (fun hh2 => ?_)
  refine lk_iconst (v := (-1)) dX9_run_17 (by decide) ?_
  refine lk_iret .int dX9_run_18 rfl rfl ?_
  rw [hQ]
  exact ⟨by first | rfl | (simp [*]; done) | (simp_all; done) | grind, by first | rfl | (simp [*]; done), rfl⟩

set_option maxHeartbeats 1000000 in
set_option maxRecDepth 100000 in
theorem tX9_run_ok (l : Launch) (X : lk_G) (d : Nat) (σ : lk_N) (τ : lk_T) (V T : lk_O) (n k : Nat) (ha : lk_all V n) (hk : k < n) (B : lk_O) (nf : Nat) (hn : σ 1 0 114 = nI nf) (hn12 : nf ≤ 12) (hB : lk_bv σ B nf) (hz : ∀ b, b < nf → 0 ≤ (B 1 b).toInt ∧ (B 1 b).toInt ≤ 9) (ru : Nat) (hru : ru ≤ 3) : lk_Mt l X mX9_run (d + 6) [lk_vr 1 0, lk_vi (nI (k)), lk_vi (nI (ru))] (lk_ms σ V T) τ (fun rr σ1 τ1 => rr = some (lk_vi (nI ((lk_run B V T nf k ru).1.1 + (lk_run B V T nf k ru).1.2.1))) ∧ τ1 = τ ∧ ∃ W : lk_N, σ1 = lk_ms W (lk_run B V T nf k ru).2.2.1 (lk_run B V T nf k ru).2.2.2 ∧ lk_rnP 1 σ W B nf k (lk_run B V T nf k ru)) := by
  refine lk_met (L := [(0, lk_vr 1 0), (1, lk_vi (nI (k))), (2, lk_vi (nI (ru)))]) (by decide +kernel) (Nat.le_of_ble_eq_true rfl) rfl ?_
  obtain ⟨Q, hQ⟩ : ∃ Q : lk_Q, Q = fun rr σ1 τ1 => rr = some (lk_vi (nI ((lk_run B V T nf k ru).1.1 + (lk_run B V T nf k ru).1.2.1))) ∧ τ1 = τ ∧ ∃ W : lk_N, σ1 = lk_ms W (lk_run B V T nf k ru).2.2.1 (lk_run B V T nf k ru).2.2.2 ∧ lk_rnP 1 σ W B nf k (lk_run B V T nf k ru) := ⟨_, rfl⟩
  rw [← hQ]
  have hk6 : k < 6 := Nat.lt_of_lt_of_le hk ha.1.2.2.1
  refine lk_aload_n dX9_run_0 rfl rfl ?_
  refine lk_iload_n dX9_run_1 rfl rfl ?_
  refine lk_callV (o := 1) (as := [lk_vi (nI (k))]) (S := []) dX9_run_2 rfl vX9_isLock rfl lX9_50 rfl rfl (Nat.le_of_ble_eq_true rfl) (tX9_isLock l X (d + 4) (lk_ms σ V T) τ (k := (nI (k))) ) ?_
  refine lk_k3 ?_
  refine lk_cast (pc' := 5) (S' := [lk_vi (if (0 : Int32) ≤ (nI (k)) ∧ (nI (k)) ≤ (lk_ms σ V T) 1 0 53 - 1 then 1 else 0)]) rfl rfl rfl ?_
  refine lk_if_eqB (tgt := 17) dX9_run_5 (by decide) (fun hh1 => absurd hh1 (fun q => q (lk_isl ha.1 hk))) (fun hh1 => ?_)
  refine lk_iload_n dX9_run_8 rfl rfl ?_
  refine lk_iconst (v := 0) dX9_run_9 (by decide) ?_
  refine lk_iconst (v := 3) dX9_run_10 (by decide) ?_
  refine lk_callS (as := [lk_vi (nI (ru)), lk_vi 0, lk_vi 3]) (S := []) dX9_run_11 rfl vX9_within rfl lX9_46 (Nat.le_of_ble_eq_true rfl) (tX9_within l X (d + 5) (lk_ms σ V T) τ (v := (nI (ru))) (a := (0 : Int32)) (b := (3 : Int32)) ) ?_
  refine lk_k3 ?_
  refine lk_cast (pc' := 14) (S' := [lk_vi (if (0 : Int32) ≤ (nI (ru)) ∧ (nI (ru)) ≤ (3 : Int32) then 1 else 0)]) rfl rfl rfl ?_
  refine lk_if_neB (tgt := 19) dX9_run_14 (by decide) (fun hh2 => ?_) (fun hh2 => absurd hh2 (fun q => q (lk_ru3 hru)))
  refine lk_aload_n dX9_run_19 rfl rfl ?_
  refine lk_iload_n dX9_run_20 rfl rfl ?_
  refine lk_iload_n dX9_run_21 rfl rfl ?_
  refine lk_iconst (v := 1) dX9_run_22 (by decide) ?_
  refine lk_callV (o := 1) (as := [lk_vi (nI (k)), lk_vi (nI (ru)), lk_vi 1]) (S := []) dX9_run_23 rfl vX9_runs rfl lX9_205 rfl rfl (Nat.le_of_ble_eq_true rfl) (tX9_runs1 l X d σ τ (k := (k)) (ru := (ru)) (V := V) (T := T) (n := n) (B := B) (nf := nf) (hV := ha.1) (hr0 := ha.2.1) (hk := hk) (hn12 := hn12) (hz := hz) (hn := hn) (hB := hB) (hru := hru)) ?_
  refine lk_k4 (fun W1 hW1 => ?_)
  refine lk_cast (pc' := 26) (S' := []) rfl rfl rfl ?_
  refine lk_sg (σ' := (lk_ms W1 (lk_run B V T nf k (ru)).2.2.1 (lk_run B V T nf k (ru)).2.2.2)) rfl ?_
  refine lk_aload_n dX9_run_26 rfl rfl ?_
  refine lk_getIv (v := (nI ((lk_run B V T nf k ru).1.1 + (lk_run B V T nf k ru).1.2.1))) (f := 22) dX9_run_27 rfl fX9_196 (by decide) (by decide) ((lk_rf (by decide)).trans hW1.2.2.1) ?_
  refine lk_iret .int dX9_run_30 rfl rfl ?_
  rw [hQ]
  exact ⟨rfl, rfl, W1, rfl, hW1⟩

set_option maxHeartbeats 1000000 in
set_option maxRecDepth 100000 in
theorem tX9_keeper_out (l : Launch) (X : lk_G) (d : Nat) (σ : lk_N) (τ : lk_T) (V T : lk_O) (k : Int32) (hk : ¬ (0 ≤ k ∧ k ≤ V 0 0 - 1))  : lk_Mt l X mX9_keeper (d + 6) [lk_vr 1 0, lk_vi (k)] (lk_ms σ V T) τ (fun rr σ1 τ1 => rr = some (lk_vi (-1)) ∧ σ1 = (lk_ms σ V T) ∧ τ1 = τ) := by
  refine lk_met (L := [(0, lk_vr 1 0), (1, lk_vi (k))]) (by decide +kernel) (Nat.le_of_ble_eq_true rfl) rfl ?_
  obtain ⟨Q, hQ⟩ : ∃ Q : lk_Q, Q = fun rr σ1 τ1 => rr = some (lk_vi (-1)) ∧ σ1 = (lk_ms σ V T) ∧ τ1 = τ := ⟨_, rfl⟩
  rw [← hQ]
  refine lk_aload_n dX9_keeper_0 rfl rfl ?_
  refine lk_iload_n dX9_keeper_1 rfl rfl ?_
  refine lk_callV (o := 1) (as := [lk_vi (k)]) (S := []) dX9_keeper_2 rfl vX9_isLock rfl lX9_50 rfl rfl (Nat.le_of_ble_eq_true rfl) (tX9_isLock l X (d + 4) (lk_ms σ V T) τ (k := (k)) ) ?_
  refine lk_k3 ?_
  refine lk_cast (pc' := 5) (S' := [lk_vi (if (0 : Int32) ≤ (k) ∧ (k) ≤ (lk_ms σ V T) 1 0 53 - 1 then 1 else 0)]) rfl rfl rfl ?_
  refine lk_if_neB (tgt := 10) dX9_keeper_5 (by decide) (fun hh1 => absurd hh1 (by rw [lk_r0 rfl rfl]; exact hk)) (fun hh1 => ?_)
  refine lk_iconst (v := (-1)) dX9_keeper_8 (by decide) ?_
  refine lk_iret .int dX9_keeper_9 rfl rfl ?_
  rw [hQ]
  exact ⟨by first | rfl | (simp [*]; done) | (simp_all; done) | grind, by first | rfl | (simp [*]; done), rfl⟩

set_option maxHeartbeats 1000000 in
set_option maxRecDepth 100000 in
theorem tX9_keeper_ok (l : Launch) (X : lk_G) (d : Nat) (σ : lk_N) (τ : lk_T) (V T : lk_O) (n k : Nat) (ha : lk_all V n) (hk : k < n) (B : lk_O) (nf : Nat) (hn : σ 1 0 114 = nI nf) (hn12 : nf ≤ 12) (hB : lk_bv σ B nf) (hz : ∀ b, b < nf → 0 ≤ (B 1 b).toInt ∧ (B 1 b).toInt ≤ 9) : lk_Mt l X mX9_keeper (d + 6) [lk_vr 1 0, lk_vi (nI (k))] (lk_ms σ V T) τ (fun rr σ1 τ1 => rr = some (lk_vi (nI (lk_kep B V T nf k 4).1)) ∧ τ1 = τ ∧ ∃ W : lk_N, σ1 = lk_ms W V T ∧ (lk_fx [2, 6, 7, 8, 9, 10, 11, 18, 19, 20, 21, 22, 23] σ W ∧ lk_kz σ W none)) := by
  refine lk_met (L := [(0, lk_vr 1 0), (1, lk_vi (nI (k)))]) (by decide +kernel) (Nat.le_of_ble_eq_true rfl) rfl ?_
  obtain ⟨Q, hQ⟩ : ∃ Q : lk_Q, Q = fun rr σ1 τ1 => rr = some (lk_vi (nI (lk_kep B V T nf k 4).1)) ∧ τ1 = τ ∧ ∃ W : lk_N, σ1 = lk_ms W V T ∧ (lk_fx [2, 6, 7, 8, 9, 10, 11, 18, 19, 20, 21, 22, 23] σ W ∧ lk_kz σ W none) := ⟨_, rfl⟩
  rw [← hQ]
  have hk6 : k < 6 := Nat.lt_of_lt_of_le hk ha.1.2.2.1
  refine lk_aload_n dX9_keeper_0 rfl rfl ?_
  refine lk_iload_n dX9_keeper_1 rfl rfl ?_
  refine lk_callV (o := 1) (as := [lk_vi (nI (k))]) (S := []) dX9_keeper_2 rfl vX9_isLock rfl lX9_50 rfl rfl (Nat.le_of_ble_eq_true rfl) (tX9_isLock l X (d + 4) (lk_ms σ V T) τ (k := (nI (k))) ) ?_
  refine lk_k3 ?_
  refine lk_cast (pc' := 5) (S' := [lk_vi (if (0 : Int32) ≤ (nI (k)) ∧ (nI (k)) ≤ (lk_ms σ V T) 1 0 53 - 1 then 1 else 0)]) rfl rfl rfl ?_
  refine lk_if_neB (tgt := 10) dX9_keeper_5 (by decide) (fun hh1 => ?_) (fun hh1 => absurd hh1 (fun q => q (lk_isl ha.1 hk)))
  refine lk_iconst (v := 0) dX9_keeper_10 (by decide) ?_
  refine lk_istore_n (L' := [(0, lk_vr 1 0), (1, lk_vi (nI (k))), (2, lk_vi 0)]) dX9_keeper_11 rfl (by decide +kernel) rfl ?_
  refine lk_iconst (v := (-1)) dX9_keeper_12 (by decide) ?_
  refine lk_istore_n (L' := [(0, lk_vr 1 0), (1, lk_vi (nI (k))), (2, lk_vi 0), (3, lk_vi (-1))]) dX9_keeper_13 rfl (by decide +kernel) rfl ?_
  refine lk_iconst (v := 0) dX9_keeper_14 (by decide) ?_
  refine lk_istore (L' := [(0, lk_vr 1 0), (1, lk_vi (nI (k))), (2, lk_vi 0), (3, lk_vi (-1)), (4, lk_vi 0)]) dX9_keeper_15 (by decide +kernel) rfl ?_
  refine lk_iconst (v := 0) dX9_keeper_17 (by decide) ?_
  refine lk_istore (L' := [(0, lk_vr 1 0), (1, lk_vi (nI (k))), (2, lk_vi 0), (3, lk_vi (-1)), (4, lk_vi 0), (5, lk_vi 0)]) dX9_keeper_18 (by decide +kernel) rfl ?_
  have LP20 : ∀ (fu : Nat) (m : Nat) (W : lk_N), m ≤ 4 → lk_fx [2, 6, 7, 8, 9, 10, 11, 18, 19, 20, 21, 22, 23] σ W → lk_kz σ W none → 4 - m < fu → lk_W l X mX9_keeper (d + 6) 20 [(0, lk_vr 1 0), (1, lk_vi (nI (k))), (2, lk_vi (nI ((lk_kep B V T nf k m).1))), (3, lk_vi ((lk_kep B V T nf k m).2.1)), (4, lk_vi ((lk_kep B V T nf k m).2.2)), (5, lk_vi (nI (m)))] [] (lk_ms W V T) τ Q := by
    intro fu
    induction fu with
    | zero => intro m W hm hWf hWk hfu; exact absurd hfu (by omega)
    | succ fu ih =>
      intro m W hm hWf hWk hfu
      refine lk_iload dX9_keeper_20 rfl ?_
      refine lk_iconst (v := 4) dX9_keeper_22 (by decide) ?_
      refine lk_icmp_geN (a := m) (b := 4) (tgt := 104) dX9_keeper_23 (by decide) (by omega) (by omega) (fun hh2 => ?_) (fun hh2 => ?_)
      ·
        refine lk_iload_n dX9_keeper_104 rfl rfl ?_
        refine lk_iret .int dX9_keeper_105 rfl rfl ?_
        rw [hQ]
        have hm4 : m = 4 := by omega
        subst hm4
        exact ⟨rfl, rfl, W, rfl, hWf, hWk⟩
      ·
        refine lk_aload_n dX9_keeper_26 rfl rfl ?_
        refine lk_getR (f := 0) dX9_keeper_27 rfl fX9_9 (by decide) (by decide) ?_
        refine lk_aload_n dX9_keeper_30 rfl rfl ?_
        refine lk_getR (f := 2) dX9_keeper_31 rfl fX9_18 (by decide) (by decide) ?_
        refine lk_callS (as := [lk_vr 1 1, lk_vr 1 3]) (S := []) dX9_keeper_34 rfl vX9_pours rfl lX9_105 (Nat.le_of_ble_eq_true rfl) (tX9_pours_02ms l X (d + 5) W τ (V := V) (T := T) ) ?_
        refine lk_k3 ?_
        refine lk_cast (pc' := 37) (S' := []) rfl rfl rfl ?_
        refine lk_aload_n dX9_keeper_37 rfl rfl ?_
        refine lk_iload_n dX9_keeper_38 rfl rfl ?_
        refine lk_iload dX9_keeper_39 rfl ?_
        refine lk_iconst (v := 0) dX9_keeper_41 (by decide) ?_
        refine lk_callV (o := 1) (as := [lk_vi (nI (k)), lk_vi (nI (m)), lk_vi 0]) (S := []) dX9_keeper_42 rfl vX9_runs rfl lX9_205 rfl rfl (Nat.le_of_ble_eq_true rfl) (tX9_runs0 l X d (lk_lay W V T) τ (k := (k)) (ru := (m)) (V := V) (T := T) (n := n) (B := B) (nf := nf) (hV := ha.1) (hr0 := ha.2.1) (hk := hk) (hn12 := hn12) (hz := hz) (hn := (hWf 1 0 114 (by decide)).trans hn) (hB := lk_bv_e (show (lk_lay W V T) 1 0 = σ 1 0 from funext fun x => hWf 1 0 x (by decide)) hB) (hru := by omega)) ?_
        refine lk_k4 (fun W1 hW1 => ?_)
        refine lk_cast (pc' := 45) (S' := []) rfl rfl rfl ?_
        refine lk_sg (σ' := (lk_ms W1 (lk_run B V T nf k (m)).2.2.1 T)) rfl ?_
        refine lk_aload_n dX9_keeper_45 rfl rfl ?_
        refine lk_getR (f := 2) dX9_keeper_46 rfl fX9_18 (by decide) (by decide) ?_
        refine lk_aload_n dX9_keeper_49 rfl rfl ?_
        refine lk_getR (f := 0) dX9_keeper_50 rfl fX9_9 (by decide) (by decide) ?_
        refine lk_callS (as := [lk_vr 1 3, lk_vr 1 1]) (S := []) dX9_keeper_53 rfl vX9_pours rfl lX9_105 (Nat.le_of_ble_eq_true rfl) (tX9_pours_20ms l X (d + 5) W1 τ (V := (lk_run B V T nf k (m)).2.2.1) (T := T) (V0 := V) (T0 := T) (R := W 1 0) (hA := fun j _ => lk_lay_w hW1.1 j)) ?_
        refine lk_k3 ?_
        refine lk_cast (pc' := 56) (S' := []) rfl rfl rfl ?_
        refine lk_aload_n dX9_keeper_56 rfl rfl ?_
        refine lk_getIv (v := (nI ((lk_run B V T nf k m).1.1 + (lk_run B V T nf k m).1.2.1))) (f := 22) dX9_keeper_57 rfl fX9_196 (by decide) (by decide) ((lk_rf (by decide)).trans hW1.2.2.1) ?_
        refine lk_iload_n dX9_keeper_60 rfl rfl ?_
        refine lk_icmp_lt (tgt := 98) dX9_keeper_61 (by decide) (fun hh3 => ?_) (fun hh3 => ?_)
        ·
          refine lk_iincN (a := m) (m := 1) (L' := [(0, lk_vr 1 0), (1, lk_vi (nI (k))), (2, lk_vi (nI ((lk_kep B V T nf k m).1))), (3, lk_vi ((lk_kep B V T nf k m).2.1)), (4, lk_vi ((lk_kep B V T nf k m).2.2)), (5, lk_vi (nI (m + 1)))]) dX9_keeper_98 rfl rfl (by decide +kernel) rfl ?_
          refine lk_goto (tgt := 20) dX9_keeper_101 (by decide) ?_
          have e1 : lk_kep B V T nf k (m + 1) = lk_kep B V T nf k m := by
            show (if (lk_kep B V T nf k m).2.1 < nI ((lk_run B V T nf k m).1.1 + (lk_run B V T nf k m).1.2.1) ∨ (nI ((lk_run B V T nf k m).1.1 + (lk_run B V T nf k m).1.2.1) = (lk_kep B V T nf k m).2.1 ∧ (lk_run B V T nf k m).1.2.2 < (lk_kep B V T nf k m).2.2) then _ else _) = _
            rw [if_neg]
            rintro (z | ⟨z, z2⟩)
            · first | exact lk_lt_asy z (by assumption) | (rw [show nI ((lk_run B V T nf k m).1.1 + (lk_run B V T nf k m).1.2.1) = (lk_kep B V T nf k m).2.1 by first | assumption | exact Decidable.not_not.mp (by assumption)] at z; exact Int32.lt_irrefl z)
            · first | exact absurd z2 (by assumption) | exact absurd (show nI ((lk_run B V T nf k m).1.1 + (lk_run B V T nf k m).1.2.1) < (lk_kep B V T nf k m).2.1 by assumption) (by rw [z]; exact Int32.lt_irrefl)
          refine lk_cast (L' := [(0, lk_vr 1 0), (1, lk_vi (nI (k))), (2, lk_vi (nI (lk_kep B V T nf k (m + 1)).1)), (3, lk_vi (lk_kep B V T nf k (m + 1)).2.1), (4, lk_vi (lk_kep B V T nf k (m + 1)).2.2), (5, lk_vi (nI (m + 1)))]) rfl (by rw [e1]) rfl ?_
          exact ih (m + 1) _ (by omega) (lk_fx_tr hWf (lk_fx_th hW1.1)) (lk_kz_no hWk (lk_kz_th (lk_rnP_k hW1))) (by omega)
        ·
          refine lk_aload_n dX9_keeper_64 rfl rfl ?_
          refine lk_getIv (v := (nI ((lk_run B V T nf k m).1.1 + (lk_run B V T nf k m).1.2.1))) (f := 22) dX9_keeper_65 rfl fX9_196 (by decide) (by decide) ((lk_rf (by decide)).trans hW1.2.2.1) ?_
          refine lk_iload_n dX9_keeper_68 rfl rfl ?_
          refine lk_icmp_ne (tgt := 84) dX9_keeper_69 (by decide) (fun hh4 => ?_) (fun hh4 => ?_)
          ·
            refine lk_iload dX9_keeper_84 rfl ?_
            refine lk_istore_n (L' := [(0, lk_vr 1 0), (1, lk_vi (nI (k))), (2, lk_vi (nI (m))), (3, lk_vi ((lk_kep B V T nf k m).2.1)), (4, lk_vi ((lk_kep B V T nf k m).2.2)), (5, lk_vi (nI (m)))]) dX9_keeper_86 rfl (by decide +kernel) rfl ?_
            refine lk_aload_n dX9_keeper_87 rfl rfl ?_
            refine lk_getIv (v := (nI ((lk_run B V T nf k m).1.1 + (lk_run B V T nf k m).1.2.1))) (f := 22) dX9_keeper_88 rfl fX9_196 (by decide) (by decide) ((lk_rf (by decide)).trans hW1.2.2.1) ?_
            refine lk_istore_n (L' := [(0, lk_vr 1 0), (1, lk_vi (nI (k))), (2, lk_vi (nI (m))), (3, lk_vi (nI ((lk_run B V T nf k m).1.1 + (lk_run B V T nf k m).1.2.1))), (4, lk_vi ((lk_kep B V T nf k m).2.2)), (5, lk_vi (nI (m)))]) dX9_keeper_91 rfl (by decide +kernel) rfl ?_
            refine lk_aload_n dX9_keeper_92 rfl rfl ?_
            refine lk_getIv (v := ((lk_run B V T nf k m).1.2.2)) (f := 23) dX9_keeper_93 rfl fX9_199 (by decide) (by decide) ((lk_rf (by decide)).trans hW1.2.2.2.1) ?_
            refine lk_istore (L' := [(0, lk_vr 1 0), (1, lk_vi (nI (k))), (2, lk_vi (nI (m))), (3, lk_vi (nI ((lk_run B V T nf k m).1.1 + (lk_run B V T nf k m).1.2.1))), (4, lk_vi ((lk_run B V T nf k m).1.2.2)), (5, lk_vi (nI (m)))]) dX9_keeper_96 (by decide +kernel) rfl ?_
            refine lk_iincN (a := m) (m := 1) (L' := [(0, lk_vr 1 0), (1, lk_vi (nI (k))), (2, lk_vi (nI (m))), (3, lk_vi (nI ((lk_run B V T nf k m).1.1 + (lk_run B V T nf k m).1.2.1))), (4, lk_vi ((lk_run B V T nf k m).1.2.2)), (5, lk_vi (nI (m + 1)))]) dX9_keeper_98 rfl rfl (by decide +kernel) rfl ?_
            refine lk_goto (tgt := 20) dX9_keeper_101 (by decide) ?_
            have e1 : lk_kep B V T nf k (m + 1) = (m, nI ((lk_run B V T nf k m).1.1 + (lk_run B V T nf k m).1.2.1), (lk_run B V T nf k m).1.2.2) := by
              show (if (lk_kep B V T nf k m).2.1 < nI ((lk_run B V T nf k m).1.1 + (lk_run B V T nf k m).1.2.1) ∨ (nI ((lk_run B V T nf k m).1.1 + (lk_run B V T nf k m).1.2.1) = (lk_kep B V T nf k m).2.1 ∧ (lk_run B V T nf k m).1.2.2 < (lk_kep B V T nf k m).2.2) then _ else _) = _
              rw [if_pos]
              first
                | exact Or.inr ⟨by first | assumption | exact Decidable.not_not.mp (by assumption), by first | assumption | exact Int32.not_le.mp (by assumption)⟩
                | exact Or.inl (lk_gt_of (by assumption) (by assumption))
            refine lk_cast (L' := [(0, lk_vr 1 0), (1, lk_vi (nI (k))), (2, lk_vi (nI (lk_kep B V T nf k (m + 1)).1)), (3, lk_vi (lk_kep B V T nf k (m + 1)).2.1), (4, lk_vi (lk_kep B V T nf k (m + 1)).2.2), (5, lk_vi (nI (m + 1)))]) rfl (by rw [e1]) rfl ?_
            exact ih (m + 1) _ (by omega) (lk_fx_tr hWf (lk_fx_th hW1.1)) (lk_kz_no hWk (lk_kz_th (lk_rnP_k hW1))) (by omega)
          ·
            refine lk_aload_n dX9_keeper_72 rfl rfl ?_
            refine lk_getIv (v := ((lk_run B V T nf k m).1.2.2)) (f := 23) dX9_keeper_73 rfl fX9_199 (by decide) (by decide) ((lk_rf (by decide)).trans hW1.2.2.2.1) ?_
            refine lk_iload dX9_keeper_76 rfl ?_
            refine lk_icmp_lt (tgt := 84) dX9_keeper_78 (by decide) (fun hh5 => ?_) (fun hh5 => ?_)
            ·
              refine lk_iload dX9_keeper_84 rfl ?_
              refine lk_istore_n (L' := [(0, lk_vr 1 0), (1, lk_vi (nI (k))), (2, lk_vi (nI (m))), (3, lk_vi ((lk_kep B V T nf k m).2.1)), (4, lk_vi ((lk_kep B V T nf k m).2.2)), (5, lk_vi (nI (m)))]) dX9_keeper_86 rfl (by decide +kernel) rfl ?_
              refine lk_aload_n dX9_keeper_87 rfl rfl ?_
              refine lk_getIv (v := (nI ((lk_run B V T nf k m).1.1 + (lk_run B V T nf k m).1.2.1))) (f := 22) dX9_keeper_88 rfl fX9_196 (by decide) (by decide) ((lk_rf (by decide)).trans hW1.2.2.1) ?_
              refine lk_istore_n (L' := [(0, lk_vr 1 0), (1, lk_vi (nI (k))), (2, lk_vi (nI (m))), (3, lk_vi (nI ((lk_run B V T nf k m).1.1 + (lk_run B V T nf k m).1.2.1))), (4, lk_vi ((lk_kep B V T nf k m).2.2)), (5, lk_vi (nI (m)))]) dX9_keeper_91 rfl (by decide +kernel) rfl ?_
              refine lk_aload_n dX9_keeper_92 rfl rfl ?_
              refine lk_getIv (v := ((lk_run B V T nf k m).1.2.2)) (f := 23) dX9_keeper_93 rfl fX9_199 (by decide) (by decide) ((lk_rf (by decide)).trans hW1.2.2.2.1) ?_
              refine lk_istore (L' := [(0, lk_vr 1 0), (1, lk_vi (nI (k))), (2, lk_vi (nI (m))), (3, lk_vi (nI ((lk_run B V T nf k m).1.1 + (lk_run B V T nf k m).1.2.1))), (4, lk_vi ((lk_run B V T nf k m).1.2.2)), (5, lk_vi (nI (m)))]) dX9_keeper_96 (by decide +kernel) rfl ?_
              refine lk_iincN (a := m) (m := 1) (L' := [(0, lk_vr 1 0), (1, lk_vi (nI (k))), (2, lk_vi (nI (m))), (3, lk_vi (nI ((lk_run B V T nf k m).1.1 + (lk_run B V T nf k m).1.2.1))), (4, lk_vi ((lk_run B V T nf k m).1.2.2)), (5, lk_vi (nI (m + 1)))]) dX9_keeper_98 rfl rfl (by decide +kernel) rfl ?_
              refine lk_goto (tgt := 20) dX9_keeper_101 (by decide) ?_
              have e1 : lk_kep B V T nf k (m + 1) = (m, nI ((lk_run B V T nf k m).1.1 + (lk_run B V T nf k m).1.2.1), (lk_run B V T nf k m).1.2.2) := by
                show (if (lk_kep B V T nf k m).2.1 < nI ((lk_run B V T nf k m).1.1 + (lk_run B V T nf k m).1.2.1) ∨ (nI ((lk_run B V T nf k m).1.1 + (lk_run B V T nf k m).1.2.1) = (lk_kep B V T nf k m).2.1 ∧ (lk_run B V T nf k m).1.2.2 < (lk_kep B V T nf k m).2.2) then _ else _) = _
                rw [if_pos]
                first
                  | exact Or.inr ⟨by first | assumption | exact Decidable.not_not.mp (by assumption), by first | assumption | exact Int32.not_le.mp (by assumption)⟩
                  | exact Or.inl (lk_gt_of (by assumption) (by assumption))
              refine lk_cast (L' := [(0, lk_vr 1 0), (1, lk_vi (nI (k))), (2, lk_vi (nI (lk_kep B V T nf k (m + 1)).1)), (3, lk_vi (lk_kep B V T nf k (m + 1)).2.1), (4, lk_vi (lk_kep B V T nf k (m + 1)).2.2), (5, lk_vi (nI (m + 1)))]) rfl (by rw [e1]) rfl ?_
              exact ih (m + 1) _ (by omega) (lk_fx_tr hWf (lk_fx_th hW1.1)) (lk_kz_no hWk (lk_kz_th (lk_rnP_k hW1))) (by omega)
            ·
              refine lk_goto (tgt := 98) dX9_keeper_81 (by decide) ?_
              refine lk_iincN (a := m) (m := 1) (L' := [(0, lk_vr 1 0), (1, lk_vi (nI (k))), (2, lk_vi (nI ((lk_kep B V T nf k m).1))), (3, lk_vi ((lk_kep B V T nf k m).2.1)), (4, lk_vi ((lk_kep B V T nf k m).2.2)), (5, lk_vi (nI (m + 1)))]) dX9_keeper_98 rfl rfl (by decide +kernel) rfl ?_
              refine lk_goto (tgt := 20) dX9_keeper_101 (by decide) ?_
              have e1 : lk_kep B V T nf k (m + 1) = lk_kep B V T nf k m := by
                show (if (lk_kep B V T nf k m).2.1 < nI ((lk_run B V T nf k m).1.1 + (lk_run B V T nf k m).1.2.1) ∨ (nI ((lk_run B V T nf k m).1.1 + (lk_run B V T nf k m).1.2.1) = (lk_kep B V T nf k m).2.1 ∧ (lk_run B V T nf k m).1.2.2 < (lk_kep B V T nf k m).2.2) then _ else _) = _
                rw [if_neg]
                rintro (z | ⟨z, z2⟩)
                · first | exact lk_lt_asy z (by assumption) | (rw [show nI ((lk_run B V T nf k m).1.1 + (lk_run B V T nf k m).1.2.1) = (lk_kep B V T nf k m).2.1 by first | assumption | exact Decidable.not_not.mp (by assumption)] at z; exact Int32.lt_irrefl z)
                · first | exact absurd z2 (by assumption) | exact absurd (show nI ((lk_run B V T nf k m).1.1 + (lk_run B V T nf k m).1.2.1) < (lk_kep B V T nf k m).2.1 by assumption) (by rw [z]; exact Int32.lt_irrefl)
              refine lk_cast (L' := [(0, lk_vr 1 0), (1, lk_vi (nI (k))), (2, lk_vi (nI (lk_kep B V T nf k (m + 1)).1)), (3, lk_vi (lk_kep B V T nf k (m + 1)).2.1), (4, lk_vi (lk_kep B V T nf k (m + 1)).2.2), (5, lk_vi (nI (m + 1)))]) rfl (by rw [e1]) rfl ?_
              exact ih (m + 1) _ (by omega) (lk_fx_tr hWf (lk_fx_th hW1.1)) (lk_kz_no hWk (lk_kz_th (lk_rnP_k hW1))) (by omega)
  exact LP20 5 0 σ (by omega) (lk_fx_rf _ _) ⟨rfl, rfl⟩ (by omega)
