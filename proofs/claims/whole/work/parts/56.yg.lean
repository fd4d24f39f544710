theorem lk_w01 {w : Int32} (h : 0 ≤ w ∧ w ≤ 1) : w = 0 ∨ w = 1 := by
  have a := Int32.le_iff_toInt_le.mp h.1
  have b := Int32.le_iff_toInt_le.mp h.2
  rw [show (0 : Int32).toInt = 0 from rfl] at a
  rw [show (1 : Int32).toInt = 1 from rfl] at b
  rcases (show w.toInt = 0 ∨ w.toInt = 1 by omega) with e | e
  · exact Or.inl (Int32.toInt_inj.mp e)
  · exact Or.inr (Int32.toInt_inj.mp e)
theorem lk_restm {V : lk_O} {k : Nat} (h : lk_lok V k) (h5 : ¬ V 5 k = 1) (h4 : V 4 k ≤ 0) : V 5 k = 0 ∧ V 4 k = 0 := by
  refine ⟨h.2.2.2.2.2.2.resolve_right h5, Int32.toInt_inj.mp ?_⟩
  have a := Int32.le_iff_toInt_le.mp h4
  have b := h.2.2.2.2.1
  rw [show (0 : Int32).toInt = 0 from rfl] at a ⊢
  omega
theorem lk_isr {V : lk_O} {T : lk_O} {σ : lk_N} {n k : Nat} (hV : lk_cok V n) (hk : k ≤ n) : (0 : Int32) ≤ nI k ∧ nI k ≤ lk_ms σ V T 1 0 53 := by
  have h6 := hV.2.2.1
  refine ⟨nI_pos' (by omega), ?_⟩
  rw [lk_r0 rfl rfl, hV.1]; exact nI_le (by omega) (by omega)
theorem lk_rchk_t {V : lk_O} {w k : Nat} {v a b c : Int32} (ha : a = if w = 0 then v else V 6 k) (hb : b = if w = 1 then v else V 7 k) (hc : c = if w = 2 then v else V 8 k) (h1 : ¬ a < b) (h2 : a ≤ c) : lk_rchk V w k v = true := by
  unfold lk_rchk; rw [← ha, ← hb, ← hc]; simp [Int32.not_lt.mp h1, h2]
theorem lk_rchk_f {V : lk_O} {w k : Nat} {v a b c : Int32} (ha : a = if w = 0 then v else V 6 k) (hb : b = if w = 1 then v else V 7 k) (hc : c = if w = 2 then v else V 8 k) (h1 : a < b ∨ ¬ a ≤ c) : lk_rchk V w k v = false := by
  unfold lk_rchk; rw [← ha, ← hb, ← hc]
  rcases h1 with h | h
  · simp [Int32.not_le.mpr h]
  · simp [h]
theorem lk_sm_e {f g : Nat → Int32} : ∀ m, (∀ k, k < m → f k = g k) → lk_sm f m = lk_sm g m
  | 0, _ => rfl
  | m + 1, h => by simp only [lk_sm]; rw [lk_sm_e m (fun k hk => h k (by omega)), h m (by omega)]
theorem lk_r33 {σ : lk_N} {V T : lk_O} {i : Nat} (h : 233 ≤ i) : lk_ms σ V T 1 0 i = σ 1 0 i := by
  rw [lk_ms_r, lk_mw]
  rw [if_neg (by omega), if_neg (by omega), if_neg (by omega), if_neg (by omega), if_neg (by omega), if_neg (by omega), if_neg (by omega), if_neg (by omega), if_neg (by omega), if_neg (by omega), if_neg (by omega)]
theorem lk_sm120 {σ : lk_N} {V T : lk_O} (h1 : σ 1 0 233 = 0) (h2 : σ 1 0 234 = 0) : lk_sm (fun k => lk_ms σ V T 1 0 (115 + k)) 120 = lk_sm (T 0) 118 := by
  show lk_sm _ 118 + lk_ms σ V T 1 0 233 + lk_ms σ V T 1 0 234 = _
  rw [lk_r33 (by decide), lk_r33 (by decide), h1, h2, lk_sm_e 118 (fun k hk => lk_rT rfl hk)]
  simp
set_option maxHeartbeats 1000000 in
set_option maxRecDepth 100000 in
theorem tX9_lock_out (l : Launch) (X : lk_G) (d : Nat) (σ : lk_N) (τ : lk_T) (V T : lk_O) (k : Int32) (hk : ¬ (0 ≤ k ∧ k ≤ V 0 0 - 1)) (w v : Int32) : lk_Mt l X mX9_lock (d + 2) [lk_vr 1 0, lk_vi (k), lk_vi (w), lk_vi (v)] (lk_ms σ V T) τ (fun rr σ1 τ1 => rr = some (lk_vi (-1)) ∧ σ1 = (lk_ms σ V T) ∧ τ1 = τ) := by
  refine lk_met (L := [(0, lk_vr 1 0), (1, lk_vi (k)), (2, lk_vi (w)), (3, lk_vi (v))]) (by decide +kernel) (Nat.le_of_ble_eq_true rfl) rfl ?_
  obtain ⟨Q, hQ⟩ : ∃ Q : lk_Q, Q = fun rr σ1 τ1 => rr = some (lk_vi (-1)) ∧ σ1 = (lk_ms σ V T) ∧ τ1 = τ := ⟨_, rfl⟩
  rw [← hQ]
  refine lk_aload_n dX9_lock_0 rfl rfl ?_
  refine lk_iload_n dX9_lock_1 rfl rfl ?_
  refine lk_callV (o := 1) (as := [lk_vi (k)]) (S := []) dX9_lock_2 rfl vX9_isLock rfl lX9_50 rfl rfl (Nat.le_of_ble_eq_true rfl) (tX9_isLock l X d (lk_ms σ V T) τ (k := (k)) ) ?_
  refine lk_k3 ?_
  refine lk_cast (pc' := 5) (S' := [lk_vi (if (0 : Int32) ≤ (k) ∧ (k) ≤ (lk_ms σ V T) 1 0 53 - 1 then 1 else 0)]) rfl rfl rfl ?_
  refine lk_if_eqB (tgt := 17) dX9_lock_5 (by decide) (fun hh1 => ?_) (fun hh1 => absurd hh1 (by rw [lk_r0 rfl rfl]; exact hk))
  refine lk_iconst (v := (-1)) dX9_lock_17 (by decide) ?_
  refine lk_iret .int dX9_lock_18 rfl rfl ?_
  rw [hQ]
  exact ⟨by first | rfl | (simp [*]; done) | (simp_all; done) | grind, by first | rfl | (simp [*]; done), rfl⟩

set_option maxHeartbeats 1000000 in
set_option maxRecDepth 100000 in
theorem tX9_lock_bad (l : Launch) (X : lk_G) (d : Nat) (σ : lk_N) (τ : lk_T) (V T : lk_O) (n k : Nat) (hV : lk_cok V n) (hk : k < n) (w v : Int32) (hs : lk_lset w v = false) : lk_Mt l X mX9_lock (d + 2) [lk_vr 1 0, lk_vi (nI (k)), lk_vi (w), lk_vi (v)] (lk_ms σ V T) τ (fun rr σ1 τ1 => rr = some (lk_vi (-1)) ∧ σ1 = (lk_ms σ V T) ∧ τ1 = τ) := by
  refine lk_met (L := [(0, lk_vr 1 0), (1, lk_vi (nI (k))), (2, lk_vi (w)), (3, lk_vi (v))]) (by decide +kernel) (Nat.le_of_ble_eq_true rfl) rfl ?_
  obtain ⟨Q, hQ⟩ : ∃ Q : lk_Q, Q = fun rr σ1 τ1 => rr = some (lk_vi (-1)) ∧ σ1 = (lk_ms σ V T) ∧ τ1 = τ := ⟨_, rfl⟩
  rw [← hQ]
  refine lk_aload_n dX9_lock_0 rfl rfl ?_
  refine lk_iload_n dX9_lock_1 rfl rfl ?_
  refine lk_callV (o := 1) (as := [lk_vi (nI (k))]) (S := []) dX9_lock_2 rfl vX9_isLock rfl lX9_50 rfl rfl (Nat.le_of_ble_eq_true rfl) (tX9_isLock l X d (lk_ms σ V T) τ (k := (nI (k))) ) ?_
  refine lk_k3 ?_
  refine lk_cast (pc' := 5) (S' := [lk_vi (if (0 : Int32) ≤ (nI (k)) ∧ (nI (k)) ≤ (lk_ms σ V T) 1 0 53 - 1 then 1 else 0)]) rfl rfl rfl ?_
  refine lk_if_eqB (tgt := 17) dX9_lock_5 (by decide) (fun hh1 => absurd hh1 (fun q => q (lk_isl hV hk))) (fun hh1 => ?_)
  refine lk_iload_n dX9_lock_8 rfl rfl ?_
  refine lk_iconst (v := 0) dX9_lock_9 (by decide) ?_
  refine lk_iconst (v := 1) dX9_lock_10 (by decide) ?_
  refine lk_callS (as := [lk_vi (w), lk_vi 0, lk_vi 1]) (S := []) dX9_lock_11 rfl vX9_within rfl lX9_46 (Nat.le_of_ble_eq_true rfl) (tX9_within l X (d + 1) (lk_ms σ V T) τ (v := (w)) (a := (0 : Int32)) (b := (1 : Int32)) ) ?_
  refine lk_k3 ?_
  refine lk_cast (pc' := 14) (S' := [lk_vi (if (0 : Int32) ≤ (w) ∧ (w) ≤ (1 : Int32) then 1 else 0)]) rfl rfl rfl ?_
  refine lk_if_neB (tgt := 19) dX9_lock_14 (by decide) (fun hh2 => ?_) (fun hh2 => ?_)
  ·
    refine lk_iload_n dX9_lock_19 rfl rfl ?_
    refine lk_if_ne (tgt := 36) dX9_lock_20 (by decide) (fun hh3 => ?_) (fun hh3 => ?_)
    ·
      refine lk_iload_n dX9_lock_36 rfl rfl ?_
      refine lk_iconst (v := 0) dX9_lock_37 (by decide) ?_
      refine lk_iconst (v := 3) dX9_lock_38 (by decide) ?_
      refine lk_callS (as := [lk_vi (v), lk_vi 0, lk_vi 3]) (S := []) dX9_lock_39 rfl vX9_within rfl lX9_46 (Nat.le_of_ble_eq_true rfl) (tX9_within l X (d + 1) (lk_ms σ V T) τ (v := (v)) (a := (0 : Int32)) (b := (3 : Int32)) ) ?_
      refine lk_k3 ?_
      refine lk_cast (pc' := 42) (S' := [lk_vi (if (0 : Int32) ≤ (v) ∧ (v) ≤ (3 : Int32) then 1 else 0)]) rfl rfl rfl ?_
      refine lk_if_neB (tgt := 47) dX9_lock_42 (by decide) (fun hh4 => ?_) (fun hh4 => ?_)
      ·
        rcases lk_w01 (by assumption) with e | e <;> subst e <;> exact absurd hs (by simp_all [lk_lset])
      ·
        refine lk_iconst (v := (-1)) dX9_lock_45 (by decide) ?_
        refine lk_iret .int dX9_lock_46 rfl rfl ?_
        rw [hQ]
        exact ⟨by first | rfl | (simp [*]; done) | (simp_all; done) | grind, by first | rfl | (simp [*]; done), rfl⟩
    ·
      refine lk_iload_n dX9_lock_23 rfl rfl ?_
      refine lk_iconst (v := 1) dX9_lock_24 (by decide) ?_
      refine lk_bipush (v := 99) dX9_lock_25 (by decide) ?_
      refine lk_callS (as := [lk_vi (v), lk_vi 1, lk_vi 99]) (S := []) dX9_lock_27 rfl vX9_within rfl lX9_46 (Nat.le_of_ble_eq_true rfl) (tX9_within l X (d + 1) (lk_ms σ V T) τ (v := (v)) (a := (1 : Int32)) (b := (99 : Int32)) ) ?_
      refine lk_k3 ?_
      refine lk_cast (pc' := 30) (S' := [lk_vi (if (1 : Int32) ≤ (v) ∧ (v) ≤ (99 : Int32) then 1 else 0)]) rfl rfl rfl ?_
      refine lk_if_neB (tgt := 47) dX9_lock_30 (by decide) (fun hh5 => ?_) (fun hh5 => ?_)
      ·
        rcases lk_w01 (by assumption) with e | e <;> subst e <;> exact absurd hs (by simp_all [lk_lset])
      ·
        refine lk_goto (tgt := 45) dX9_lock_33 (by decide) ?_
        refine lk_iconst (v := (-1)) dX9_lock_45 (by decide) ?_
        refine lk_iret .int dX9_lock_46 rfl rfl ?_
        rw [hQ]
        exact ⟨by first | rfl | (simp [*]; done) | (simp_all; done) | grind, by first | rfl | (simp [*]; done), rfl⟩
  ·
    refine lk_iconst (v := (-1)) dX9_lock_17 (by decide) ?_
    refine lk_iret .int dX9_lock_18 rfl rfl ?_
    rw [hQ]
    exact ⟨by first | rfl | (simp [*]; done) | (simp_all; done) | grind, by first | rfl | (simp [*]; done), rfl⟩

set_option maxHeartbeats 1000000 in
set_option maxRecDepth 100000 in
theorem tX9_lock_state0 (l : Launch) (X : lk_G) (d : Nat) (σ : lk_N) (τ : lk_T) (V T : lk_O) (n k : Nat) (hV : lk_cok V n) (hk : k < n) (v : Int32) (hv : 1 ≤ v ∧ v ≤ 99) (hr : ¬ (V 5 k = 0 ∧ V 4 k = 0)) : lk_Mt l X mX9_lock (d + 2) [lk_vr 1 0, lk_vi (nI (k)), lk_vi 0, lk_vi (v)] (lk_ms σ V T) τ (fun rr σ1 τ1 => rr = some (lk_vi (-5)) ∧ σ1 = (lk_ms σ V T) ∧ τ1 = τ) := by
  refine lk_met (L := [(0, lk_vr 1 0), (1, lk_vi (nI (k))), (2, lk_vi 0), (3, lk_vi (v))]) (by decide +kernel) (Nat.le_of_ble_eq_true rfl) rfl ?_
  obtain ⟨Q, hQ⟩ : ∃ Q : lk_Q, Q = fun rr σ1 τ1 => rr = some (lk_vi (-5)) ∧ σ1 = (lk_ms σ V T) ∧ τ1 = τ := ⟨_, rfl⟩
  rw [← hQ]
  have hk6 : k < 6 := Nat.lt_of_lt_of_le hk hV.2.2.1
  refine lk_aload_n dX9_lock_0 rfl rfl ?_
  refine lk_iload_n dX9_lock_1 rfl rfl ?_
  refine lk_callV (o := 1) (as := [lk_vi (nI (k))]) (S := []) dX9_lock_2 rfl vX9_isLock rfl lX9_50 rfl rfl (Nat.le_of_ble_eq_true rfl) (tX9_isLock l X d (lk_ms σ V T) τ (k := (nI (k))) ) ?_
  refine lk_k3 ?_
  refine lk_cast (pc' := 5) (S' := [lk_vi (if (0 : Int32) ≤ (nI (k)) ∧ (nI (k)) ≤ (lk_ms σ V T) 1 0 53 - 1 then 1 else 0)]) rfl rfl rfl ?_
  refine lk_if_eqB (tgt := 17) dX9_lock_5 (by decide) (fun hh1 => absurd hh1 (fun q => q (lk_isl hV hk))) (fun hh1 => ?_)
  refine lk_iload_n dX9_lock_8 rfl rfl ?_
  refine lk_iconst (v := 0) dX9_lock_9 (by decide) ?_
  refine lk_iconst (v := 1) dX9_lock_10 (by decide) ?_
  refine lk_callS (as := [lk_vi 0, lk_vi 0, lk_vi 1]) (S := []) dX9_lock_11 rfl vX9_within rfl lX9_46 (Nat.le_of_ble_eq_true rfl) (tX9_within l X (d + 1) (lk_ms σ V T) τ (v := (0 : Int32)) (a := (0 : Int32)) (b := (1 : Int32)) ) ?_
  refine lk_k3 ?_
  refine lk_cast (pc' := 14) (S' := [lk_vi (if (0 : Int32) ≤ (0 : Int32) ∧ (0 : Int32) ≤ (1 : Int32) then 1 else 0)]) rfl rfl rfl ?_
  refine lk_if_neB (tgt := 19) dX9_lock_14 (by decide) (fun hh2 => ?_) (fun hh2 => absurd hh2 (fun q => q (by decide)))
  refine lk_iload_n dX9_lock_19 rfl rfl ?_
  refine lk_if_ne (tgt := 36) dX9_lock_20 (by decide) (fun hh3 => absurd hh3 (by decide)) (fun hh3 => ?_)
  refine lk_iload_n dX9_lock_23 rfl rfl ?_
  refine lk_iconst (v := 1) dX9_lock_24 (by decide) ?_
  refine lk_bipush (v := 99) dX9_lock_25 (by decide) ?_
  refine lk_callS (as := [lk_vi (v), lk_vi 1, lk_vi 99]) (S := []) dX9_lock_27 rfl vX9_within rfl lX9_46 (Nat.le_of_ble_eq_true rfl) (tX9_within l X (d + 1) (lk_ms σ V T) τ (v := (v)) (a := (1 : Int32)) (b := (99 : Int32)) ) ?_
  refine lk_k3 ?_
  refine lk_cast (pc' := 30) (S' := [lk_vi (if (1 : Int32) ≤ (v) ∧ (v) ≤ (99 : Int32) then 1 else 0)]) rfl rfl rfl ?_
  refine lk_if_neB (tgt := 47) dX9_lock_30 (by decide) (fun hh4 => ?_) (fun hh4 => absurd hh4 (fun q => q hv))
  refine lk_aload_n dX9_lock_47 rfl rfl ?_
  refine lk_getR (f := 0) dX9_lock_48 rfl fX9_9 (by decide) (by decide) ?_
  refine lk_bipush (v := 18) dX9_lock_51 (by decide) ?_
  refine lk_iload_n dX9_lock_53 rfl rfl ?_
  refine lk_iaddN (a := 18) (b := k) dX9_lock_54 ?_
  refine lk_ialdN (f := 0) (i := 18 + k) dX9_lock_55 rfl (by decide) rfl (by omega) (by decide) ?_
  refine lk_eqtop (y := (V 5 (k))) (lk_r5 (by omega) (by omega)) ?_
  refine lk_iconst (v := 1) dX9_lock_56 (by decide) ?_
  refine lk_icmp_eq (tgt := 72) dX9_lock_57 (by decide) (fun hh5 => ?_) (fun hh5 => ?_)
  ·
    refine lk_bipush (v := (-5)) dX9_lock_72 (by decide) ?_
    refine lk_iret .int dX9_lock_74 rfl rfl ?_
    rw [hQ]
    exact ⟨by first | rfl | (simp [*]; done) | (simp_all; done) | grind, by first | rfl | (simp [*]; done), rfl⟩
  ·
    refine lk_aload_n dX9_lock_60 rfl rfl ?_
    refine lk_getR (f := 0) dX9_lock_61 rfl fX9_9 (by decide) (by decide) ?_
    refine lk_bipush (v := 12) dX9_lock_64 (by decide) ?_
    refine lk_iload_n dX9_lock_66 rfl rfl ?_
    refine lk_iaddN (a := 12) (b := k) dX9_lock_67 ?_
    refine lk_ialdN (f := 0) (i := 12 + k) dX9_lock_68 rfl (by decide) rfl (by omega) (by decide) ?_
    refine lk_eqtop (y := (V 4 (k))) (lk_r4 (by omega) (by omega)) ?_
    refine lk_if_le (tgt := 75) dX9_lock_69 (by decide) (fun hh6 => ?_) (fun hh6 => ?_)
    ·
      exact absurd (lk_restm (hV.2.2.2 k hk6) (by assumption) (by assumption)) hr
    ·
      refine lk_bipush (v := (-5)) dX9_lock_72 (by decide) ?_
      refine lk_iret .int dX9_lock_74 rfl rfl ?_
      rw [hQ]
      exact ⟨by first | rfl | (simp [*]; done) | (simp_all; done) | grind, by first | rfl | (simp [*]; done), rfl⟩

set_option maxHeartbeats 1000000 in
set_option maxRecDepth 100000 in
theorem tX9_lock_ok0 (l : Launch) (X : lk_G) (d : Nat) (σ : lk_N) (τ : lk_T) (V T : lk_O) (n k : Nat) (hV : lk_cok V n) (hk : k < n) (v : Int32) (hv : 1 ≤ v ∧ v ≤ 99) (hr : V 5 k = 0 ∧ V 4 k = 0) : lk_Mt l X mX9_lock (d + 2) [lk_vr 1 0, lk_vi (nI (k)), lk_vi 0, lk_vi (v)] (lk_ms σ V T) τ (fun rr σ1 τ1 => rr = some (lk_vi (V 2 k)) ∧ σ1 = (lk_ms σ (lk_ou V 2 k v) T) ∧ τ1 = τ) := by
  refine lk_met (L := [(0, lk_vr 1 0), (1, lk_vi (nI (k))), (2, lk_vi 0), (3, lk_vi (v))]) (by decide +kernel) (Nat.le_of_ble_eq_true rfl) rfl ?_
  obtain ⟨Q, hQ⟩ : ∃ Q : lk_Q, Q = fun rr σ1 τ1 => rr = some (lk_vi (V 2 k)) ∧ σ1 = (lk_ms σ (lk_ou V 2 k v) T) ∧ τ1 = τ := ⟨_, rfl⟩
  rw [← hQ]
  have hk6 : k < 6 := Nat.lt_of_lt_of_le hk hV.2.2.1
  refine lk_aload_n dX9_lock_0 rfl rfl ?_
  refine lk_iload_n dX9_lock_1 rfl rfl ?_
  refine lk_callV (o := 1) (as := [lk_vi (nI (k))]) (S := []) dX9_lock_2 rfl vX9_isLock rfl lX9_50 rfl rfl (Nat.le_of_ble_eq_true rfl) (tX9_isLock l X d (lk_ms σ V T) τ (k := (nI (k))) ) ?_
  refine lk_k3 ?_
  refine lk_cast (pc' := 5) (S' := [lk_vi (if (0 : Int32) ≤ (nI (k)) ∧ (nI (k)) ≤ (lk_ms σ V T) 1 0 53 - 1 then 1 else 0)]) rfl rfl rfl ?_
  refine lk_if_eqB (tgt := 17) dX9_lock_5 (by decide) (fun hh1 => absurd hh1 (fun q => q (lk_isl hV hk))) (fun hh1 => ?_)
  refine lk_iload_n dX9_lock_8 rfl rfl ?_
  refine lk_iconst (v := 0) dX9_lock_9 (by decide) ?_
  refine lk_iconst (v := 1) dX9_lock_10 (by decide) ?_
  refine lk_callS (as := [lk_vi 0, lk_vi 0, lk_vi 1]) (S := []) dX9_lock_11 rfl vX9_within rfl lX9_46 (Nat.le_of_ble_eq_true rfl) (tX9_within l X (d + 1) (lk_ms σ V T) τ (v := (0 : Int32)) (a := (0 : Int32)) (b := (1 : Int32)) ) ?_
  refine lk_k3 ?_
  refine lk_cast (pc' := 14) (S' := [lk_vi (if (0 : Int32) ≤ (0 : Int32) ∧ (0 : Int32) ≤ (1 : Int32) then 1 else 0)]) rfl rfl rfl ?_
  refine lk_if_neB (tgt := 19) dX9_lock_14 (by decide) (fun hh2 => ?_) (fun hh2 => absurd hh2 (fun q => q (by decide)))
  refine lk_iload_n dX9_lock_19 rfl rfl ?_
  refine lk_if_ne (tgt := 36) dX9_lock_20 (by decide) (fun hh3 => absurd hh3 (by decide)) (fun hh3 => ?_)
  refine lk_iload_n dX9_lock_23 rfl rfl ?_
  refine lk_iconst (v := 1) dX9_lock_24 (by decide) ?_
  refine lk_bipush (v := 99) dX9_lock_25 (by decide) ?_
  refine lk_callS (as := [lk_vi (v), lk_vi 1, lk_vi 99]) (S := []) dX9_lock_27 rfl vX9_within rfl lX9_46 (Nat.le_of_ble_eq_true rfl) (tX9_within l X (d + 1) (lk_ms σ V T) τ (v := (v)) (a := (1 : Int32)) (b := (99 : Int32)) ) ?_
  refine lk_k3 ?_
  refine lk_cast (pc' := 30) (S' := [lk_vi (if (1 : Int32) ≤ (v) ∧ (v) ≤ (99 : Int32) then 1 else 0)]) rfl rfl rfl ?_
  refine lk_if_neB (tgt := 47) dX9_lock_30 (by decide) (fun hh4 => ?_) (fun hh4 => absurd hh4 (fun q => q hv))
  refine lk_aload_n dX9_lock_47 rfl rfl ?_
  refine lk_getR (f := 0) dX9_lock_48 rfl fX9_9 (by decide) (by decide) ?_
  refine lk_bipush (v := 18) dX9_lock_51 (by decide) ?_
  refine lk_iload_n dX9_lock_53 rfl rfl ?_
  refine lk_iaddN (a := 18) (b := k) dX9_lock_54 ?_
  refine lk_ialdN (f := 0) (i := 18 + k) dX9_lock_55 rfl (by decide) rfl (by omega) (by decide) ?_
  refine lk_eqtop (y := (V 5 (k))) (lk_r5 (by omega) (by omega)) ?_
  refine lk_iconst (v := 1) dX9_lock_56 (by decide) ?_
  refine lk_icmp_eq (tgt := 72) dX9_lock_57 (by decide) (fun hh5 => absurd hh5 (by rw [hr.1]; decide)) (fun hh5 => ?_)
  refine lk_aload_n dX9_lock_60 rfl rfl ?_
  refine lk_getR (f := 0) dX9_lock_61 rfl fX9_9 (by decide) (by decide) ?_
  refine lk_bipush (v := 12) dX9_lock_64 (by decide) ?_
  refine lk_iload_n dX9_lock_66 rfl rfl ?_
  refine lk_iaddN (a := 12) (b := k) dX9_lock_67 ?_
  refine lk_ialdN (f := 0) (i := 12 + k) dX9_lock_68 rfl (by decide) rfl (by omega) (by decide) ?_
  refine lk_eqtop (y := (V 4 (k))) (lk_r4 (by omega) (by omega)) ?_
  refine lk_if_le (tgt := 75) dX9_lock_69 (by decide) (fun hh6 => ?_) (fun hh6 => absurd hh6 (fun q => q (by rw [hr.2]; decide)))
  refine lk_aload_n dX9_lock_75 rfl rfl ?_
  refine lk_iload_n dX9_lock_76 rfl rfl ?_
  refine lk_if_ne (tgt := 84) dX9_lock_77 (by decide) (fun hh7 => absurd hh7 (by decide)) (fun hh7 => ?_)
  refine lk_iconst (v := 0) dX9_lock_80 (by decide) ?_
  refine lk_goto (tgt := 86) dX9_lock_81 (by decide) ?_
  refine lk_iload_n dX9_lock_86 rfl rfl ?_
  refine lk_iaddN (a := 0) (b := k) dX9_lock_87 ?_
  refine lk_iload_n dX9_lock_88 rfl rfl ?_
  refine lk_callV (o := 1) (as := [lk_vi (nI (0 + k)), lk_vi (v)]) (S := []) dX9_lock_89 rfl vX9_becomes rfl lX9_54 rfl rfl (Nat.le_of_ble_eq_true rfl) (tX9_becomes l X (d + 1) (lk_ms σ V T) τ (f := (0 + k)) (v := (v)) (hf := by omega)) ?_
  refine lk_k3 ?_
  refine lk_cast (pc' := 92) (S' := [lk_vi ((lk_ms σ V T) 1 0 (0 + k))]) rfl rfl rfl ?_
  refine lk_eqtop (y := (V 2 (k))) (lk_r2 (by omega) (by omega)) ?_
  refine lk_sg (σ' := (lk_ms σ (lk_ou V 2 (k) (v)) T)) (lk_w2 (by omega) (by omega)) ?_
  refine lk_iret .int dX9_lock_92 rfl rfl ?_
  rw [hQ]
  exact ⟨by first | rfl | (simp [*]; done) | (simp_all; done) | grind, by first | rfl | (simp [*]; done), rfl⟩

set_option maxHeartbeats 1000000 in
set_option maxRecDepth 100000 in
theorem tX9_lock_state1 (l : Launch) (X : lk_G) (d : Nat) (σ : lk_N) (τ : lk_T) (V T : lk_O) (n k : Nat) (hV : lk_cok V n) (hk : k < n) (v : Int32) (hv : 0 ≤ v ∧ v ≤ 3) (hr : ¬ (V 5 k = 0 ∧ V 4 k = 0)) : lk_Mt l X mX9_lock (d + 2) [lk_vr 1 0, lk_vi (nI (k)), lk_vi 1, lk_vi (v)] (lk_ms σ V T) τ (fun rr σ1 τ1 => rr = some (lk_vi (-5)) ∧ σ1 = (lk_ms σ V T) ∧ τ1 = τ) := by
  refine lk_met (L := [(0, lk_vr 1 0), (1, lk_vi (nI (k))), (2, lk_vi 1), (3, lk_vi (v))]) (by decide +kernel) (Nat.le_of_ble_eq_true rfl) rfl ?_
  obtain ⟨Q, hQ⟩ : ∃ Q : lk_Q, Q = fun rr σ1 τ1 => rr = some (lk_vi (-5)) ∧ σ1 = (lk_ms σ V T) ∧ τ1 = τ := ⟨_, rfl⟩
  rw [← hQ]
  have hk6 : k < 6 := Nat.lt_of_lt_of_le hk hV.2.2.1
  refine lk_aload_n dX9_lock_0 rfl rfl ?_
  refine lk_iload_n dX9_lock_1 rfl rfl ?_
  refine lk_callV (o := 1) (as := [lk_vi (nI (k))]) (S := []) dX9_lock_2 rfl vX9_isLock rfl lX9_50 rfl rfl (Nat.le_of_ble_eq_true rfl) (tX9_isLock l X d (lk_ms σ V T) τ (k := (nI (k))) ) ?_
  refine lk_k3 ?_
  refine lk_cast (pc' := 5) (S' := [lk_vi (if (0 : Int32) ≤ (nI (k)) ∧ (nI (k)) ≤ (lk_ms σ V T) 1 0 53 - 1 then 1 else 0)]) rfl rfl rfl ?_
  refine lk_if_eqB (tgt := 17) dX9_lock_5 (by decide) (fun hh1 => absurd hh1 (fun q => q (lk_isl hV hk))) (fun hh1 => ?_)
  refine lk_iload_n dX9_lock_8 rfl rfl ?_
  refine lk_iconst (v := 0) dX9_lock_9 (by decide) ?_
  refine lk_iconst (v := 1) dX9_lock_10 (by decide) ?_
  refine lk_callS (as := [lk_vi 1, lk_vi 0, lk_vi 1]) (S := []) dX9_lock_11 rfl vX9_within rfl lX9_46 (Nat.le_of_ble_eq_true rfl) (tX9_within l X (d + 1) (lk_ms σ V T) τ (v := (1 : Int32)) (a := (0 : Int32)) (b := (1 : Int32)) ) ?_
  refine lk_k3 ?_
  refine lk_cast (pc' := 14) (S' := [lk_vi (if (0 : Int32) ≤ (1 : Int32) ∧ (1 : Int32) ≤ (1 : Int32) then 1 else 0)]) rfl rfl rfl ?_
  refine lk_if_neB (tgt := 19) dX9_lock_14 (by decide) (fun hh2 => ?_) (fun hh2 => absurd hh2 (fun q => q (by decide)))
  refine lk_iload_n dX9_lock_19 rfl rfl ?_
  refine lk_if_ne (tgt := 36) dX9_lock_20 (by decide) (fun hh3 => ?_) (fun hh3 => absurd hh3 (by decide))
  refine lk_iload_n dX9_lock_36 rfl rfl ?_
  refine lk_iconst (v := 0) dX9_lock_37 (by decide) ?_
  refine lk_iconst (v := 3) dX9_lock_38 (by decide) ?_
  refine lk_callS (as := [lk_vi (v), lk_vi 0, lk_vi 3]) (S := []) dX9_lock_39 rfl vX9_within rfl lX9_46 (Nat.le_of_ble_eq_true rfl) (tX9_within l X (d + 1) (lk_ms σ V T) τ (v := (v)) (a := (0 : Int32)) (b := (3 : Int32)) ) ?_
  refine lk_k3 ?_
  refine lk_cast (pc' := 42) (S' := [lk_vi (if (0 : Int32) ≤ (v) ∧ (v) ≤ (3 : Int32) then 1 else 0)]) rfl rfl rfl ?_
  refine lk_if_neB (tgt := 47) dX9_lock_42 (by decide) (fun hh4 => ?_) (fun hh4 => absurd hh4 (fun q => q hv))
  refine lk_aload_n dX9_lock_47 rfl rfl ?_
  refine lk_getR (f := 0) dX9_lock_48 rfl fX9_9 (by decide) (by decide) ?_
  refine lk_bipush (v := 18) dX9_lock_51 (by decide) ?_
  refine lk_iload_n dX9_lock_53 rfl rfl ?_
  refine lk_iaddN (a := 18) (b := k) dX9_lock_54 ?_
  refine lk_ialdN (f := 0) (i := 18 + k) dX9_lock_55 rfl (by decide) rfl (by omega) (by decide) ?_
  refine lk_eqtop (y := (V 5 (k))) (lk_r5 (by omega) (by omega)) ?_
  refine lk_iconst (v := 1) dX9_lock_56 (by decide) ?_
  refine lk_icmp_eq (tgt := 72) dX9_lock_57 (by decide) (fun hh5 => ?_) (fun hh5 => ?_)
  ·
    refine lk_bipush (v := (-5)) dX9_lock_72 (by decide) ?_
    refine lk_iret .int dX9_lock_74 rfl rfl ?_
    rw [hQ]
    exact ⟨by first | rfl | (simp [*]; done) | (simp_all; done) | grind, by first | rfl | (simp [*]; done), rfl⟩
  ·
    refine lk_aload_n dX9_lock_60 rfl rfl ?_
    refine lk_getR (f := 0) dX9_lock_61 rfl fX9_9 (by decide) (by decide) ?_
    refine lk_bipush (v := 12) dX9_lock_64 (by decide) ?_
    refine lk_iload_n dX9_lock_66 rfl rfl ?_
    refine lk_iaddN (a := 12) (b := k) dX9_lock_67 ?_
    refine lk_ialdN (f := 0) (i := 12 + k) dX9_lock_68 rfl (by decide) rfl (by omega) (by decide) ?_
    refine lk_eqtop (y := (V 4 (k))) (lk_r4 (by omega) (by omega)) ?_
    refine lk_if_le (tgt := 75) dX9_lock_69 (by decide) (fun hh6 => ?_) (fun hh6 => ?_)
    ·
      exact absurd (lk_restm (hV.2.2.2 k hk6) (by assumption) (by assumption)) hr
    ·
      refine lk_bipush (v := (-5)) dX9_lock_72 (by decide) ?_
      refine lk_iret .int dX9_lock_74 rfl rfl ?_
      rw [hQ]
      exact ⟨by first | rfl | (simp [*]; done) | (simp_all; done) | grind, by first | rfl | (simp [*]; done), rfl⟩

set_option maxHeartbeats 1000000 in
set_option maxRecDepth 100000 in
theorem tX9_lock_ok1 (l : Launch) (X : lk_G) (d : Nat) (σ : lk_N) (τ : lk_T) (V T : lk_O) (n k : Nat) (hV : lk_cok V n) (hk : k < n) (v : Int32) (hv : 0 ≤ v ∧ v ≤ 3) (hr : V 5 k = 0 ∧ V 4 k = 0) : lk_Mt l X mX9_lock (d + 2) [lk_vr 1 0, lk_vi (nI (k)), lk_vi 1, lk_vi (v)] (lk_ms σ V T) τ (fun rr σ1 τ1 => rr = some (lk_vi (V 3 k)) ∧ σ1 = (lk_ms σ (lk_ou V 3 k v) T) ∧ τ1 = τ) := by
  refine lk_met (L := [(0, lk_vr 1 0), (1, lk_vi (nI (k))), (2, lk_vi 1), (3, lk_vi (v))]) (by decide +kernel) (Nat.le_of_ble_eq_true rfl) rfl ?_
  obtain ⟨Q, hQ⟩ : ∃ Q : lk_Q, Q = fun rr σ1 τ1 => rr = some (lk_vi (V 3 k)) ∧ σ1 = (lk_ms σ (lk_ou V 3 k v) T) ∧ τ1 = τ := ⟨_, rfl⟩
  rw [← hQ]
  have hk6 : k < 6 := Nat.lt_of_lt_of_le hk hV.2.2.1
  refine lk_aload_n dX9_lock_0 rfl rfl ?_
  refine lk_iload_n dX9_lock_1 rfl rfl ?_
  refine lk_callV (o := 1) (as := [lk_vi (nI (k))]) (S := []) dX9_lock_2 rfl vX9_isLock rfl lX9_50 rfl rfl (Nat.le_of_ble_eq_true rfl) (tX9_isLock l X d (lk_ms σ V T) τ (k := (nI (k))) ) ?_
  refine lk_k3 ?_
  refine lk_cast (pc' := 5) (S' := [lk_vi (if (0 : Int32) ≤ (nI (k)) ∧ (nI (k)) ≤ (lk_ms σ V T) 1 0 53 - 1 then 1 else 0)]) rfl rfl rfl ?_
  refine lk_if_eqB (tgt := 17) dX9_lock_5 (by decide) (fun hh1 => absurd hh1 (fun q => q (lk_isl hV hk))) (fun hh1 => ?_)
  refine lk_iload_n dX9_lock_8 rfl rfl ?_
  refine lk_iconst (v := 0) dX9_lock_9 (by decide) ?_
  refine lk_iconst (v := 1) dX9_lock_10 (by decide) ?_
  refine lk_callS (as := [lk_vi 1, lk_vi 0, lk_vi 1]) (S := []) dX9_lock_11 rfl vX9_within rfl lX9_46 (Nat.le_of_ble_eq_true rfl) (tX9_within l X (d + 1) (lk_ms σ V T) τ (v := (1 : Int32)) (a := (0 : Int32)) (b := (1 : Int32)) ) ?_
  refine lk_k3 ?_
  refine lk_cast (pc' := 14) (S' := [lk_vi (if (0 : Int32) ≤ (1 : Int32) ∧ (1 : Int32) ≤ (1 : Int32) then 1 else 0)]) rfl rfl rfl ?_
  refine lk_if_neB (tgt := 19) dX9_lock_14 (by decide) (fun hh2 => ?_) (fun hh2 => absurd hh2 (fun q => q (by decide)))
  refine lk_iload_n dX9_lock_19 rfl rfl ?_
  refine lk_if_ne (tgt := 36) dX9_lock_20 (by decide) (fun hh3 => ?_) (fun hh3 => absurd hh3 (by decide))
  refine lk_iload_n dX9_lock_36 rfl rfl ?_
  refine lk_iconst (v := 0) dX9_lock_37 (by decide) ?_
  refine lk_iconst (v := 3) dX9_lock_38 (by decide) ?_
  refine lk_callS (as := [lk_vi (v), lk_vi 0, lk_vi 3]) (S := []) dX9_lock_39 rfl vX9_within rfl lX9_46 (Nat.le_of_ble_eq_true rfl) (tX9_within l X (d + 1) (lk_ms σ V T) τ (v := (v)) (a := (0 : Int32)) (b := (3 : Int32)) ) ?_
  refine lk_k3 ?_
  refine lk_cast (pc' := 42) (S' := [lk_vi (if (0 : Int32) ≤ (v) ∧ (v) ≤ (3 : Int32) then 1 else 0)]) rfl rfl rfl ?_
  refine lk_if_neB (tgt := 47) dX9_lock_42 (by decide) (fun hh4 => ?_) (fun hh4 => absurd hh4 (fun q => q hv))
  refine lk_aload_n dX9_lock_47 rfl rfl ?_
  refine lk_getR (f := 0) dX9_lock_48 rfl fX9_9 (by decide) (by decide) ?_
  refine lk_bipush (v := 18) dX9_lock_51 (by decide) ?_
  refine lk_iload_n dX9_lock_53 rfl rfl ?_
  refine lk_iaddN (a := 18) (b := k) dX9_lock_54 ?_
  refine lk_ialdN (f := 0) (i := 18 + k) dX9_lock_55 rfl (by decide) rfl (by omega) (by decide) ?_
  refine lk_eqtop (y := (V 5 (k))) (lk_r5 (by omega) (by omega)) ?_
  refine lk_iconst (v := 1) dX9_lock_56 (by decide) ?_
  refine lk_icmp_eq (tgt := 72) dX9_lock_57 (by decide) (fun hh5 => absurd hh5 (by rw [hr.1]; decide)) (fun hh5 => ?_)
  refine lk_aload_n dX9_lock_60 rfl rfl ?_
  refine lk_getR (f := 0) dX9_lock_61 rfl fX9_9 (by decide) (by decide) ?_
  refine lk_bipush (v := 12) dX9_lock_64 (by decide) ?_
  refine lk_iload_n dX9_lock_66 rfl rfl ?_
  refine lk_iaddN (a := 12) (b := k) dX9_lock_67 ?_
  refine lk_ialdN (f := 0) (i := 12 + k) dX9_lock_68 rfl (by decide) rfl (by omega) (by decide) ?_
  refine lk_eqtop (y := (V 4 (k))) (lk_r4 (by omega) (by omega)) ?_
  refine lk_if_le (tgt := 75) dX9_lock_69 (by decide) (fun hh6 => ?_) (fun hh6 => absurd hh6 (fun q => q (by rw [hr.2]; decide)))
  refine lk_aload_n dX9_lock_75 rfl rfl ?_
  refine lk_iload_n dX9_lock_76 rfl rfl ?_
  refine lk_if_ne (tgt := 84) dX9_lock_77 (by decide) (fun hh7 => ?_) (fun hh7 => absurd hh7 (by decide))
  refine lk_bipush (v := 6) dX9_lock_84 (by decide) ?_
  refine lk_iload_n dX9_lock_86 rfl rfl ?_
  refine lk_iaddN (a := 6) (b := k) dX9_lock_87 ?_
  refine lk_iload_n dX9_lock_88 rfl rfl ?_
  refine lk_callV (o := 1) (as := [lk_vi (nI (6 + k)), lk_vi (v)]) (S := []) dX9_lock_89 rfl vX9_becomes rfl lX9_54 rfl rfl (Nat.le_of_ble_eq_true rfl) (tX9_becomes l X (d + 1) (lk_ms σ V T) τ (f := (6 + k)) (v := (v)) (hf := by omega)) ?_
  refine lk_k3 ?_
  refine lk_cast (pc' := 92) (S' := [lk_vi ((lk_ms σ V T) 1 0 (6 + k))]) rfl rfl rfl ?_
  refine lk_eqtop (y := (V 3 (k))) (lk_r3 (by omega) (by omega)) ?_
  refine lk_sg (σ' := (lk_ms σ (lk_ou V 3 (k) (v)) T)) (lk_w3 (by omega) (by omega)) ?_
  refine lk_iret .int dX9_lock_92 rfl rfl ?_
  rw [hQ]
  exact ⟨by first | rfl | (simp [*]; done) | (simp_all; done) | grind, by first | rfl | (simp [*]; done), rfl⟩

set_option maxHeartbeats 1000000 in
set_option maxRecDepth 100000 in
theorem tX9_ofLock_out (l : Launch) (X : lk_G) (d : Nat) (σ : lk_N) (τ : lk_T) (V T : lk_O) (k : Int32) (hk : ¬ (0 ≤ k ∧ k ≤ V 0 0 - 1)) (w : Int32) : lk_Mt l X mX9_ofLock (d + 2) [lk_vr 1 0, lk_vi (k), lk_vi (w)] (lk_ms σ V T) τ (fun rr σ1 τ1 => rr = some (lk_vi (-1)) ∧ σ1 = (lk_ms σ V T) ∧ τ1 = τ) := by
  refine lk_met (L := [(0, lk_vr 1 0), (1, lk_vi (k)), (2, lk_vi (w))]) (by decide +kernel) (Nat.le_of_ble_eq_true rfl) rfl ?_
  obtain ⟨Q, hQ⟩ : ∃ Q : lk_Q, Q = fun rr σ1 τ1 => rr = some (lk_vi (-1)) ∧ σ1 = (lk_ms σ V T) ∧ τ1 = τ := ⟨_, rfl⟩
  rw [← hQ]
  refine lk_aload_n dX9_ofLock_0 rfl rfl ?_
  refine lk_iload_n dX9_ofLock_1 rfl rfl ?_
  refine lk_callV (o := 1) (as := [lk_vi (k)]) (S := []) dX9_ofLock_2 rfl vX9_isLock rfl lX9_50 rfl rfl (Nat.le_of_ble_eq_true rfl) (tX9_isLock l X d (lk_ms σ V T) τ (k := (k)) ) ?_
  refine lk_k3 ?_
  refine lk_cast (pc' := 5) (S' := [lk_vi (if (0 : Int32) ≤ (k) ∧ (k) ≤ (lk_ms σ V T) 1 0 53 - 1 then 1 else 0)]) rfl rfl rfl ?_
  refine lk_if_eqB (tgt := 17) dX9_ofLock_5 (by decide) (fun hh1 => ?_) (fun hh1 => absurd hh1 (by rw [lk_r0 rfl rfl]; exact hk))
  refine lk_iconst (v := (-1)) dX9_ofLock_17 (by decide) ?_
  refine lk_iret .int dX9_ofLock_18 rfl rfl ?_
  rw [hQ]
  exact ⟨by first | rfl | (simp [*]; done) | (simp_all; done) | grind, by first | rfl | (simp [*]; done), rfl⟩

set_option maxHeartbeats 1000000 in
set_option maxRecDepth 100000 in
theorem tX9_ofLock_bad (l : Launch) (X : lk_G) (d : Nat) (σ : lk_N) (τ : lk_T) (V T : lk_O) (n k : Nat) (hV : lk_cok V n) (hk : k < n) (w : Int32) (h : ¬ (0 ≤ w ∧ w ≤ 4)) : lk_Mt l X mX9_ofLock (d + 2) [lk_vr 1 0, lk_vi (nI (k)), lk_vi (w)] (lk_ms σ V T) τ (fun rr σ1 τ1 => rr = some (lk_vi (-1)) ∧ σ1 = (lk_ms σ V T) ∧ τ1 = τ) := by
  refine lk_met (L := [(0, lk_vr 1 0), (1, lk_vi (nI (k))), (2, lk_vi (w))]) (by decide +kernel) (Nat.le_of_ble_eq_true rfl) rfl ?_
  obtain ⟨Q, hQ⟩ : ∃ Q : lk_Q, Q = fun rr σ1 τ1 => rr = some (lk_vi (-1)) ∧ σ1 = (lk_ms σ V T) ∧ τ1 = τ := ⟨_, rfl⟩
  rw [← hQ]
  refine lk_aload_n dX9_ofLock_0 rfl rfl ?_
  refine lk_iload_n dX9_ofLock_1 rfl rfl ?_
  refine lk_callV (o := 1) (as := [lk_vi (nI (k))]) (S := []) dX9_ofLock_2 rfl vX9_isLock rfl lX9_50 rfl rfl (Nat.le_of_ble_eq_true rfl) (tX9_isLock l X d (lk_ms σ V T) τ (k := (nI (k))) ) ?_
  refine lk_k3 ?_
  refine lk_cast (pc' := 5) (S' := [lk_vi (if (0 : Int32) ≤ (nI (k)) ∧ (nI (k)) ≤ (lk_ms σ V T) 1 0 53 - 1 then 1 else 0)]) rfl rfl rfl ?_
  refine lk_if_eqB (tgt := 17) dX9_ofLock_5 (by decide) (fun hh1 => absurd hh1 (fun q => q (lk_isl hV hk))) (fun hh1 => ?_)
  refine lk_iload_n dX9_ofLock_8 rfl rfl ?_
  refine lk_iconst (v := 0) dX9_ofLock_9 (by decide) ?_
  refine lk_iconst (v := 4) dX9_ofLock_10 (by decide) ?_
  refine lk_callS (as := [lk_vi (w), lk_vi 0, lk_vi 4]) (S := []) dX9_ofLock_11 rfl vX9_within rfl lX9_46 (Nat.le_of_ble_eq_true rfl) (tX9_within l X (d + 1) (lk_ms σ V T) τ (v := (w)) (a := (0 : Int32)) (b := (4 : Int32)) ) ?_
  refine lk_k3 ?_
  refine lk_cast (pc' := 14) (S' := [lk_vi (if (0 : Int32) ≤ (w) ∧ (w) ≤ (4 : Int32) then 1 else 0)]) rfl rfl rfl ?_
  refine lk_if_neB (tgt := 19) dX9_ofLock_14 (by decide) (fun hh2 => absurd hh2 h) (fun hh2 => ?_)
  refine lk_iconst (v := (-1)) dX9_ofLock_17 (by decide) ?_
  refine lk_iret .int dX9_ofLock_18 rfl rfl ?_
  rw [hQ]
  exact ⟨by first | rfl | (simp [*]; done) | (simp_all; done) | grind, by first | rfl | (simp [*]; done), rfl⟩

set_option maxHeartbeats 1000000 in
set_option maxRecDepth 100000 in
theorem tX9_ofLock_0 (l : Launch) (X : lk_G) (d : Nat) (σ : lk_N) (τ : lk_T) (V T : lk_O) (n k : Nat) (hV : lk_cok V n) (hk : k < n)  : lk_Mt l X mX9_ofLock (d + 2) [lk_vr 1 0, lk_vi (nI (k)), lk_vi 0] (lk_ms σ V T) τ (fun rr σ1 τ1 => rr = some (lk_vi (lk_lnum V k 0)) ∧ σ1 = (lk_ms σ V T) ∧ τ1 = τ) := by
  refine lk_met (L := [(0, lk_vr 1 0), (1, lk_vi (nI (k))), (2, lk_vi 0)]) (by decide +kernel) (Nat.le_of_ble_eq_true rfl) rfl ?_
  obtain ⟨Q, hQ⟩ : ∃ Q : lk_Q, Q = fun rr σ1 τ1 => rr = some (lk_vi (lk_lnum V k 0)) ∧ σ1 = (lk_ms σ V T) ∧ τ1 = τ := ⟨_, rfl⟩
  rw [← hQ]
  have hk6 : k < 6 := Nat.lt_of_lt_of_le hk hV.2.2.1
  refine lk_aload_n dX9_ofLock_0 rfl rfl ?_
  refine lk_iload_n dX9_ofLock_1 rfl rfl ?_
  refine lk_callV (o := 1) (as := [lk_vi (nI (k))]) (S := []) dX9_ofLock_2 rfl vX9_isLock rfl lX9_50 rfl rfl (Nat.le_of_ble_eq_true rfl) (tX9_isLock l X d (lk_ms σ V T) τ (k := (nI (k))) ) ?_
  refine lk_k3 ?_
  refine lk_cast (pc' := 5) (S' := [lk_vi (if (0 : Int32) ≤ (nI (k)) ∧ (nI (k)) ≤ (lk_ms σ V T) 1 0 53 - 1 then 1 else 0)]) rfl rfl rfl ?_
  refine lk_if_eqB (tgt := 17) dX9_ofLock_5 (by decide) (fun hh1 => absurd hh1 (fun q => q (lk_isl hV hk))) (fun hh1 => ?_)
  refine lk_iload_n dX9_ofLock_8 rfl rfl ?_
  refine lk_iconst (v := 0) dX9_ofLock_9 (by decide) ?_
  refine lk_iconst (v := 4) dX9_ofLock_10 (by decide) ?_
  refine lk_callS (as := [lk_vi 0, lk_vi 0, lk_vi 4]) (S := []) dX9_ofLock_11 rfl vX9_within rfl lX9_46 (Nat.le_of_ble_eq_true rfl) (tX9_within l X (d + 1) (lk_ms σ V T) τ (v := (0 : Int32)) (a := (0 : Int32)) (b := (4 : Int32)) ) ?_
  refine lk_k3 ?_
  refine lk_cast (pc' := 14) (S' := [lk_vi (if (0 : Int32) ≤ (0 : Int32) ∧ (0 : Int32) ≤ (4 : Int32) then 1 else 0)]) rfl rfl rfl ?_
  refine lk_if_neB (tgt := 19) dX9_ofLock_14 (by decide) (fun hh2 => ?_) (fun hh2 => absurd hh2 (fun q => q (by decide)))
  refine lk_iload_n dX9_ofLock_19 rfl rfl ?_
  refine lk_iconst (v := 4) dX9_ofLock_20 (by decide) ?_
  refine lk_icmp_neN (a := 0) (b := 4) (tgt := 32) dX9_ofLock_21 (by decide) (by omega) (by omega) (fun hh3 => ?_) (fun hh3 => absurd hh3 (by decide))
  refine lk_aload_n dX9_ofLock_32 rfl rfl ?_
  refine lk_getR (f := 0) dX9_ofLock_33 rfl fX9_9 (by decide) (by decide) ?_
  refine lk_bipush (v := 6) dX9_ofLock_36 (by decide) ?_
  refine lk_iload_n dX9_ofLock_38 rfl rfl ?_
  refine lk_imulN (a := 6) (b := 0) dX9_ofLock_39 ?_
  refine lk_iload_n dX9_ofLock_40 rfl rfl ?_
  refine lk_iaddN (a := 0) (b := k) dX9_ofLock_41 ?_
  refine lk_ialdN (f := 0) (i := 0 + k) dX9_ofLock_42 rfl (by decide) rfl (by omega) (by decide) ?_
  refine lk_eqtop (y := (V 2 (k))) (lk_r2 (by omega) (by omega)) ?_
  refine lk_iret .int dX9_ofLock_43 rfl rfl ?_
  rw [hQ]
  exact ⟨rfl, rfl, rfl⟩

set_option maxHeartbeats 1000000 in
set_option maxRecDepth 100000 in
theorem tX9_ofLock_1 (l : Launch) (X : lk_G) (d : Nat) (σ : lk_N) (τ : lk_T) (V T : lk_O) (n k : Nat) (hV : lk_cok V n) (hk : k < n)  : lk_Mt l X mX9_ofLock (d + 2) [lk_vr 1 0, lk_vi (nI (k)), lk_vi 1] (lk_ms σ V T) τ (fun rr σ1 τ1 => rr = some (lk_vi (lk_lnum V k 1)) ∧ σ1 = (lk_ms σ V T) ∧ τ1 = τ) := by
  refine lk_met (L := [(0, lk_vr 1 0), (1, lk_vi (nI (k))), (2, lk_vi 1)]) (by decide +kernel) (Nat.le_of_ble_eq_true rfl) rfl ?_
  obtain ⟨Q, hQ⟩ : ∃ Q : lk_Q, Q = fun rr σ1 τ1 => rr = some (lk_vi (lk_lnum V k 1)) ∧ σ1 = (lk_ms σ V T) ∧ τ1 = τ := ⟨_, rfl⟩
  rw [← hQ]
  have hk6 : k < 6 := Nat.lt_of_lt_of_le hk hV.2.2.1
  refine lk_aload_n dX9_ofLock_0 rfl rfl ?_
  refine lk_iload_n dX9_ofLock_1 rfl rfl ?_
  refine lk_callV (o := 1) (as := [lk_vi (nI (k))]) (S := []) dX9_ofLock_2 rfl vX9_isLock rfl lX9_50 rfl rfl (Nat.le_of_ble_eq_true rfl) (tX9_isLock l X d (lk_ms σ V T) τ (k := (nI (k))) ) ?_
  refine lk_k3 ?_
  refine lk_cast (pc' := 5) (S' := [lk_vi (if (0 : Int32) ≤ (nI (k)) ∧ (nI (k)) ≤ (lk_ms σ V T) 1 0 53 - 1 then 1 else 0)]) rfl rfl rfl ?_
  refine lk_if_eqB (tgt := 17) dX9_ofLock_5 (by decide) (fun hh1 => absurd hh1 (fun q => q (lk_isl hV hk))) (fun hh1 => ?_)
  refine lk_iload_n dX9_ofLock_8 rfl rfl ?_
  refine lk_iconst (v := 0) dX9_ofLock_9 (by decide) ?_
  refine lk_iconst (v := 4) dX9_ofLock_10 (by decide) ?_
  refine lk_callS (as := [lk_vi 1, lk_vi 0, lk_vi 4]) (S := []) dX9_ofLock_11 rfl vX9_within rfl lX9_46 (Nat.le_of_ble_eq_true rfl) (tX9_within l X (d + 1) (lk_ms σ V T) τ (v := (1 : Int32)) (a := (0 : Int32)) (b := (4 : Int32)) ) ?_
  refine lk_k3 ?_
  refine lk_cast (pc' := 14) (S' := [lk_vi (if (0 : Int32) ≤ (1 : Int32) ∧ (1 : Int32) ≤ (4 : Int32) then 1 else 0)]) rfl rfl rfl ?_
  refine lk_if_neB (tgt := 19) dX9_ofLock_14 (by decide) (fun hh2 => ?_) (fun hh2 => absurd hh2 (fun q => q (by decide)))
  refine lk_iload_n dX9_ofLock_19 rfl rfl ?_
  refine lk_iconst (v := 4) dX9_ofLock_20 (by decide) ?_
  refine lk_icmp_neN (a := 1) (b := 4) (tgt := 32) dX9_ofLock_21 (by decide) (by omega) (by omega) (fun hh3 => ?_) (fun hh3 => absurd hh3 (by decide))
  refine lk_aload_n dX9_ofLock_32 rfl rfl ?_
  refine lk_getR (f := 0) dX9_ofLock_33 rfl fX9_9 (by decide) (by decide) ?_
  refine lk_bipush (v := 6) dX9_ofLock_36 (by decide) ?_
  refine lk_iload_n dX9_ofLock_38 rfl rfl ?_
  refine lk_imulN (a := 6) (b := 1) dX9_ofLock_39 ?_
  refine lk_iload_n dX9_ofLock_40 rfl rfl ?_
  refine lk_iaddN (a := 6) (b := k) dX9_ofLock_41 ?_
  refine lk_ialdN (f := 0) (i := 6 + k) dX9_ofLock_42 rfl (by decide) rfl (by omega) (by decide) ?_
  refine lk_eqtop (y := (V 3 (k))) (lk_r3 (by omega) (by omega)) ?_
  refine lk_iret .int dX9_ofLock_43 rfl rfl ?_
  rw [hQ]
  exact ⟨rfl, rfl, rfl⟩

set_option maxHeartbeats 1000000 in
set_option maxRecDepth 100000 in
theorem tX9_ofLock_2 (l : Launch) (X : lk_G) (d : Nat) (σ : lk_N) (τ : lk_T) (V T : lk_O) (n k : Nat) (hV : lk_cok V n) (hk : k < n)  : lk_Mt l X mX9_ofLock (d + 2) [lk_vr 1 0, lk_vi (nI (k)), lk_vi 2] (lk_ms σ V T) τ (fun rr σ1 τ1 => rr = some (lk_vi (lk_lnum V k 2)) ∧ σ1 = (lk_ms σ V T) ∧ τ1 = τ) := by
  refine lk_met (L := [(0, lk_vr 1 0), (1, lk_vi (nI (k))), (2, lk_vi 2)]) (by decide +kernel) (Nat.le_of_ble_eq_true rfl) rfl ?_
  obtain ⟨Q, hQ⟩ : ∃ Q : lk_Q, Q = fun rr σ1 τ1 => rr = some (lk_vi (lk_lnum V k 2)) ∧ σ1 = (lk_ms σ V T) ∧ τ1 = τ := ⟨_, rfl⟩
  rw [← hQ]
  have hk6 : k < 6 := Nat.lt_of_lt_of_le hk hV.2.2.1
  refine lk_aload_n dX9_ofLock_0 rfl rfl ?_
  refine lk_iload_n dX9_ofLock_1 rfl rfl ?_
  refine lk_callV (o := 1) (as := [lk_vi (nI (k))]) (S := []) dX9_ofLock_2 rfl vX9_isLock rfl lX9_50 rfl rfl (Nat.le_of_ble_eq_true rfl) (tX9_isLock l X d (lk_ms σ V T) τ (k := (nI (k))) ) ?_
  refine lk_k3 ?_
  refine lk_cast (pc' := 5) (S' := [lk_vi (if (0 : Int32) ≤ (nI (k)) ∧ (nI (k)) ≤ (lk_ms σ V T) 1 0 53 - 1 then 1 else 0)]) rfl rfl rfl ?_
  refine lk_if_eqB (tgt := 17) dX9_ofLock_5 (by decide) (fun hh1 => absurd hh1 (fun q => q (lk_isl hV hk))) (fun hh1 => ?_)
  refine lk_iload_n dX9_ofLock_8 rfl rfl ?_
  refine lk_iconst (v := 0) dX9_ofLock_9 (by decide) ?_
  refine lk_iconst (v := 4) dX9_ofLock_10 (by decide) ?_
  refine lk_callS (as := [lk_vi 2, lk_vi 0, lk_vi 4]) (S := []) dX9_ofLock_11 rfl vX9_within rfl lX9_46 (Nat.le_of_ble_eq_true rfl) (tX9_within l X (d + 1) (lk_ms σ V T) τ (v := (2 : Int32)) (a := (0 : Int32)) (b := (4 : Int32)) ) ?_
  refine lk_k3 ?_
  refine lk_cast (pc' := 14) (S' := [lk_vi (if (0 : Int32) ≤ (2 : Int32) ∧ (2 : Int32) ≤ (4 : Int32) then 1 else 0)]) rfl rfl rfl ?_
  refine lk_if_neB (tgt := 19) dX9_ofLock_14 (by decide) (fun hh2 => ?_) (fun hh2 => absurd hh2 (fun q => q (by decide)))
  refine lk_iload_n dX9_ofLock_19 rfl rfl ?_
  refine lk_iconst (v := 4) dX9_ofLock_20 (by decide) ?_
  refine lk_icmp_neN (a := 2) (b := 4) (tgt := 32) dX9_ofLock_21 (by decide) (by omega) (by omega) (fun hh3 => ?_) (fun hh3 => absurd hh3 (by decide))
  refine lk_aload_n dX9_ofLock_32 rfl rfl ?_
  refine lk_getR (f := 0) dX9_ofLock_33 rfl fX9_9 (by decide) (by decide) ?_
  refine lk_bipush (v := 6) dX9_ofLock_36 (by decide) ?_
  refine lk_iload_n dX9_ofLock_38 rfl rfl ?_
  refine lk_imulN (a := 6) (b := 2) dX9_ofLock_39 ?_
  refine lk_iload_n dX9_ofLock_40 rfl rfl ?_
  refine lk_iaddN (a := 12) (b := k) dX9_ofLock_41 ?_
  refine lk_ialdN (f := 0) (i := 12 + k) dX9_ofLock_42 rfl (by decide) rfl (by omega) (by decide) ?_
  refine lk_eqtop (y := (V 4 (k))) (lk_r4 (by omega) (by omega)) ?_
  refine lk_iret .int dX9_ofLock_43 rfl rfl ?_
  rw [hQ]
  exact ⟨rfl, rfl, rfl⟩

set_option maxHeartbeats 1000000 in
set_option maxRecDepth 100000 in
theorem tX9_ofLock_3 (l : Launch) (X : lk_G) (d : Nat) (σ : lk_N) (τ : lk_T) (V T : lk_O) (n k : Nat) (hV : lk_cok V n) (hk : k < n)  : lk_Mt l X mX9_ofLock (d + 2) [lk_vr 1 0, lk_vi (nI (k)), lk_vi 3] (lk_ms σ V T) τ (fun rr σ1 τ1 => rr = some (lk_vi (lk_lnum V k 3)) ∧ σ1 = (lk_ms σ V T) ∧ τ1 = τ) := by
  refine lk_met (L := [(0, lk_vr 1 0), (1, lk_vi (nI (k))), (2, lk_vi 3)]) (by decide +kernel) (Nat.le_of_ble_eq_true rfl) rfl ?_
  obtain ⟨Q, hQ⟩ : ∃ Q : lk_Q, Q = fun rr σ1 τ1 => rr = some (lk_vi (lk_lnum V k 3)) ∧ σ1 = (lk_ms σ V T) ∧ τ1 = τ := ⟨_, rfl⟩
  rw [← hQ]
  have hk6 : k < 6 := Nat.lt_of_lt_of_le hk hV.2.2.1
  refine lk_aload_n dX9_ofLock_0 rfl rfl ?_
  refine lk_iload_n dX9_ofLock_1 rfl rfl ?_
  refine lk_callV (o := 1) (as := [lk_vi (nI (k))]) (S := []) dX9_ofLock_2 rfl vX9_isLock rfl lX9_50 rfl rfl (Nat.le_of_ble_eq_true rfl) (tX9_isLock l X d (lk_ms σ V T) τ (k := (nI (k))) ) ?_
  refine lk_k3 ?_
  refine lk_cast (pc' := 5) (S' := [lk_vi (if (0 : Int32) ≤ (nI (k)) ∧ (nI (k)) ≤ (lk_ms σ V T) 1 0 53 - 1 then 1 else 0)]) rfl rfl rfl ?_
  refine lk_if_eqB (tgt := 17) dX9_ofLock_5 (by decide) (fun hh1 => absurd hh1 (fun q => q (lk_isl hV hk))) (fun hh1 => ?_)
  refine lk_iload_n dX9_ofLock_8 rfl rfl ?_
  refine lk_iconst (v := 0) dX9_ofLock_9 (by decide) ?_
  refine lk_iconst (v := 4) dX9_ofLock_10 (by decide) ?_
  refine lk_callS (as := [lk_vi 3, lk_vi 0, lk_vi 4]) (S := []) dX9_ofLock_11 rfl vX9_within rfl lX9_46 (Nat.le_of_ble_eq_true rfl) (tX9_within l X (d + 1) (lk_ms σ V T) τ (v := (3 : Int32)) (a := (0 : Int32)) (b := (4 : Int32)) ) ?_
  refine lk_k3 ?_
  refine lk_cast (pc' := 14) (S' := [lk_vi (if (0 : Int32) ≤ (3 : Int32) ∧ (3 : Int32) ≤ (4 : Int32) then 1 else 0)]) rfl rfl rfl ?_
  refine lk_if_neB (tgt := 19) dX9_ofLock_14 (by decide) (fun hh2 => ?_) (fun hh2 => absurd hh2 (fun q => q (by decide)))
  refine lk_iload_n dX9_ofLock_19 rfl rfl ?_
  refine lk_iconst (v := 4) dX9_ofLock_20 (by decide) ?_
  refine lk_icmp_neN (a := 3) (b := 4) (tgt := 32) dX9_ofLock_21 (by decide) (by omega) (by omega) (fun hh3 => ?_) (fun hh3 => absurd hh3 (by decide))
  refine lk_aload_n dX9_ofLock_32 rfl rfl ?_
  refine lk_getR (f := 0) dX9_ofLock_33 rfl fX9_9 (by decide) (by decide) ?_
  refine lk_bipush (v := 6) dX9_ofLock_36 (by decide) ?_
  refine lk_iload_n dX9_ofLock_38 rfl rfl ?_
  refine lk_imulN (a := 6) (b := 3) dX9_ofLock_39 ?_
  refine lk_iload_n dX9_ofLock_40 rfl rfl ?_
  refine lk_iaddN (a := 18) (b := k) dX9_ofLock_41 ?_
  refine lk_ialdN (f := 0) (i := 18 + k) dX9_ofLock_42 rfl (by decide) rfl (by omega) (by decide) ?_
  refine lk_eqtop (y := (V 5 (k))) (lk_r5 (by omega) (by omega)) ?_
  refine lk_iret .int dX9_ofLock_43 rfl rfl ?_
  rw [hQ]
  refine ⟨?_, rfl, rfl⟩
  rcases (hV.2.2.2 k hk6).2.2.2.2.2.2 with e | e <;> simp [lk_lnum, e]

set_option maxHeartbeats 1000000 in
set_option maxRecDepth 100000 in
theorem tX9_ofLock_4 (l : Launch) (X : lk_G) (d : Nat) (σ : lk_N) (τ : lk_T) (V T : lk_O) (n k : Nat) (hV : lk_cok V n) (hk : k < n)  : lk_Mt l X mX9_ofLock (d + 2) [lk_vr 1 0, lk_vi (nI (k)), lk_vi 4] (lk_ms σ V T) τ (fun rr σ1 τ1 => rr = some (lk_vi (lk_lnum V k 4)) ∧ σ1 = (lk_ms σ V T) ∧ τ1 = τ) := by
  refine lk_met (L := [(0, lk_vr 1 0), (1, lk_vi (nI (k))), (2, lk_vi 4)]) (by decide +kernel) (Nat.le_of_ble_eq_true rfl) rfl ?_
  obtain ⟨Q, hQ⟩ : ∃ Q : lk_Q, Q = fun rr σ1 τ1 => rr = some (lk_vi (lk_lnum V k 4)) ∧ σ1 = (lk_ms σ V T) ∧ τ1 = τ := ⟨_, rfl⟩
  rw [← hQ]
  have hk6 : k < 6 := Nat.lt_of_lt_of_le hk hV.2.2.1
  refine lk_aload_n dX9_ofLock_0 rfl rfl ?_
  refine lk_iload_n dX9_ofLock_1 rfl rfl ?_
  refine lk_callV (o := 1) (as := [lk_vi (nI (k))]) (S := []) dX9_ofLock_2 rfl vX9_isLock rfl lX9_50 rfl rfl (Nat.le_of_ble_eq_true rfl) (tX9_isLock l X d (lk_ms σ V T) τ (k := (nI (k))) ) ?_
  refine lk_k3 ?_
  refine lk_cast (pc' := 5) (S' := [lk_vi (if (0 : Int32) ≤ (nI (k)) ∧ (nI (k)) ≤ (lk_ms σ V T) 1 0 53 - 1 then 1 else 0)]) rfl rfl rfl ?_
  refine lk_if_eqB (tgt := 17) dX9_ofLock_5 (by decide) (fun hh1 => absurd hh1 (fun q => q (lk_isl hV hk))) (fun hh1 => ?_)
  refine lk_iload_n dX9_ofLock_8 rfl rfl ?_
  refine lk_iconst (v := 0) dX9_ofLock_9 (by decide) ?_
  refine lk_iconst (v := 4) dX9_ofLock_10 (by decide) ?_
  refine lk_callS (as := [lk_vi 4, lk_vi 0, lk_vi 4]) (S := []) dX9_ofLock_11 rfl vX9_within rfl lX9_46 (Nat.le_of_ble_eq_true rfl) (tX9_within l X (d + 1) (lk_ms σ V T) τ (v := (4 : Int32)) (a := (0 : Int32)) (b := (4 : Int32)) ) ?_
  refine lk_k3 ?_
  refine lk_cast (pc' := 14) (S' := [lk_vi (if (0 : Int32) ≤ (4 : Int32) ∧ (4 : Int32) ≤ (4 : Int32) then 1 else 0)]) rfl rfl rfl ?_
  refine lk_if_neB (tgt := 19) dX9_ofLock_14 (by decide) (fun hh2 => ?_) (fun hh2 => absurd hh2 (fun q => q (by decide)))
  refine lk_iload_n dX9_ofLock_19 rfl rfl ?_
  refine lk_iconst (v := 4) dX9_ofLock_20 (by decide) ?_
  refine lk_icmp_neN (a := 4) (b := 4) (tgt := 32) dX9_ofLock_21 (by decide) (by omega) (by omega) (fun hh3 => absurd hh3 (by decide)) (fun hh3 => ?_)
  refine lk_aload_n dX9_ofLock_24 rfl rfl ?_
  refine lk_iload_n dX9_ofLock_25 rfl rfl ?_
  refine lk_callV (o := 1) (as := [lk_vi (nI (k))]) (S := []) dX9_ofLock_26 rfl vX9_share rfl lX9_58 rfl rfl (Nat.le_of_ble_eq_true rfl) (tX9_share_ms l X (d + 1) σ τ (k := (k)) (V := V) (T := T) (hk := hk6) (hp := lk_lok_p (hV.2.2.2 k hk6))) ?_
  refine lk_k3 ?_
  refine lk_cast (pc' := 29) (S' := [lk_vi (lk_shr V (k))]) rfl rfl rfl ?_
  refine lk_goto (tgt := 43) dX9_ofLock_29 (by decide) ?_
  refine lk_iret .int dX9_ofLock_43 rfl rfl ?_
  rw [hQ]
  exact ⟨rfl, rfl, rfl⟩

set_option maxHeartbeats 1000000 in
set_option maxRecDepth 100000 in
theorem tX9_reach_out (l : Launch) (X : lk_G) (d : Nat) (σ : lk_N) (τ : lk_T) (V T : lk_O) (k : Int32) (hk : ¬ (0 ≤ k ∧ k ≤ V 0 0)) (w v : Int32) : lk_Mt l X mX9_reach (d + 2) [lk_vr 1 0, lk_vi (k), lk_vi (w), lk_vi (v)] (lk_ms σ V T) τ (fun rr σ1 τ1 => rr = some (lk_vi (-1)) ∧ σ1 = (lk_ms σ V T) ∧ τ1 = τ) := by
  refine lk_met (L := [(0, lk_vr 1 0), (1, lk_vi (k)), (2, lk_vi (w)), (3, lk_vi (v))]) (by decide +kernel) (Nat.le_of_ble_eq_true rfl) rfl ?_
  obtain ⟨Q, hQ⟩ : ∃ Q : lk_Q, Q = fun rr σ1 τ1 => rr = some (lk_vi (-1)) ∧ σ1 = (lk_ms σ V T) ∧ τ1 = τ := ⟨_, rfl⟩
  rw [← hQ]
  refine lk_aload_n dX9_reach_0 rfl rfl ?_
  refine lk_iload_n dX9_reach_1 rfl rfl ?_
  refine lk_callV (o := 1) (as := [lk_vi (k)]) (S := []) dX9_reach_2 rfl vX9_isReach rfl lX9_62 rfl rfl (Nat.le_of_ble_eq_true rfl) (tX9_isReach l X d (lk_ms σ V T) τ (k := (k)) ) ?_
  refine lk_k3 ?_
  refine lk_cast (pc' := 5) (S' := [lk_vi (if (0 : Int32) ≤ (k) ∧ (k) ≤ (lk_ms σ V T) 1 0 53 then 1 else 0)]) rfl rfl rfl ?_
  refine lk_if_eqB (tgt := 38) dX9_reach_5 (by decide) (fun hh1 => ?_) (fun hh1 => absurd hh1 (by rw [lk_r0 rfl rfl]; exact hk))
  refine lk_iconst (v := (-1)) dX9_reach_38 (by decide) ?_
  refine lk_iret .int dX9_reach_39 rfl rfl ?_
  rw [hQ]
  exact ⟨by first | rfl | (simp [*]; done) | (simp_all; done) | grind, by first | rfl | (simp [*]; done), rfl⟩

set_option maxHeartbeats 1000000 in
set_option maxRecDepth 100000 in
theorem tX9_reach_bad (l : Launch) (X : lk_G) (d : Nat) (σ : lk_N) (τ : lk_T) (V T : lk_O) (n k : Nat) (hV : lk_cok V n) (hk : k ≤ n) (w v : Int32) (hs : lk_rset w v = false) : lk_Mt l X mX9_reach (d + 2) [lk_vr 1 0, lk_vi (nI (k)), lk_vi (w), lk_vi (v)] (lk_ms σ V T) τ (fun rr σ1 τ1 => rr = some (lk_vi (-1)) ∧ σ1 = (lk_ms σ V T) ∧ τ1 = τ) := by
  refine lk_met (L := [(0, lk_vr 1 0), (1, lk_vi (nI (k))), (2, lk_vi (w)), (3, lk_vi (v))]) (by decide +kernel) (Nat.le_of_ble_eq_true rfl) rfl ?_
  obtain ⟨Q, hQ⟩ : ∃ Q : lk_Q, Q = fun rr σ1 τ1 => rr = some (lk_vi (-1)) ∧ σ1 = (lk_ms σ V T) ∧ τ1 = τ := ⟨_, rfl⟩
  rw [← hQ]
  refine lk_aload_n dX9_reach_0 rfl rfl ?_
  refine lk_iload_n dX9_reach_1 rfl rfl ?_
  refine lk_callV (o := 1) (as := [lk_vi (nI (k))]) (S := []) dX9_reach_2 rfl vX9_isReach rfl lX9_62 rfl rfl (Nat.le_of_ble_eq_true rfl) (tX9_isReach l X d (lk_ms σ V T) τ (k := (nI (k))) ) ?_
  refine lk_k3 ?_
  refine lk_cast (pc' := 5) (S' := [lk_vi (if (0 : Int32) ≤ (nI (k)) ∧ (nI (k)) ≤ (lk_ms σ V T) 1 0 53 then 1 else 0)]) rfl rfl rfl ?_
  refine lk_if_eqB (tgt := 38) dX9_reach_5 (by decide) (fun hh1 => absurd hh1 (fun q => q (lk_isr hV hk))) (fun hh1 => ?_)
  refine lk_iload_n dX9_reach_8 rfl rfl ?_
  refine lk_iconst (v := 0) dX9_reach_9 (by decide) ?_
  refine lk_iconst (v := 3) dX9_reach_10 (by decide) ?_
  refine lk_callS (as := [lk_vi (w), lk_vi 0, lk_vi 3]) (S := []) dX9_reach_11 rfl vX9_within rfl lX9_46 (Nat.le_of_ble_eq_true rfl) (tX9_within l X (d + 1) (lk_ms σ V T) τ (v := (w)) (a := (0 : Int32)) (b := (3 : Int32)) ) ?_
  refine lk_k3 ?_
  refine lk_cast (pc' := 14) (S' := [lk_vi (if (0 : Int32) ≤ (w) ∧ (w) ≤ (3 : Int32) then 1 else 0)]) rfl rfl rfl ?_
  refine lk_if_eqB (tgt := 38) dX9_reach_14 (by decide) (fun hh2 => ?_) (fun hh2 => ?_)
  ·
    refine lk_iconst (v := (-1)) dX9_reach_38 (by decide) ?_
    refine lk_iret .int dX9_reach_39 rfl rfl ?_
    rw [hQ]
    exact ⟨by first | rfl | (simp [*]; done) | (simp_all; done) | grind, by first | rfl | (simp [*]; done), rfl⟩
  ·
    refine lk_iload_n dX9_reach_17 rfl rfl ?_
    refine lk_iconst (v := 0) dX9_reach_18 (by decide) ?_
    refine lk_iload_n dX9_reach_19 rfl rfl ?_
    refine lk_iconst (v := 3) dX9_reach_20 (by decide) ?_
    refine lk_icmp_ne (tgt := 29) dX9_reach_21 (by decide) (fun hh3 => ?_) (fun hh3 => ?_)
    ·
      refine lk_sipush (v := 9999) dX9_reach_29 (by decide) ?_
      refine lk_callS (as := [lk_vi (v), lk_vi 0, lk_vi 9999]) (S := []) dX9_reach_32 rfl vX9_within rfl lX9_46 (Nat.le_of_ble_eq_true rfl) (tX9_within l X (d + 1) (lk_ms σ V T) τ (v := (v)) (a := (0 : Int32)) (b := (9999 : Int32)) ) ?_
      refine lk_k3 ?_
      refine lk_cast (pc' := 35) (S' := [lk_vi (if (0 : Int32) ≤ (v) ∧ (v) ≤ (9999 : Int32) then 1 else 0)]) rfl rfl rfl ?_
      refine lk_if_neB (tgt := 40) dX9_reach_35 (by decide) (fun hh4 => ?_) (fun hh4 => ?_)
      ·
        exact absurd hs (by simp_all [lk_rset])
      ·
        refine lk_iconst (v := (-1)) dX9_reach_38 (by decide) ?_
        refine lk_iret .int dX9_reach_39 rfl rfl ?_
        rw [hQ]
        exact ⟨by first | rfl | (simp [*]; done) | (simp_all; done) | grind, by first | rfl | (simp [*]; done), rfl⟩
    ·
      refine lk_bipush (v := 99) dX9_reach_24 (by decide) ?_
      refine lk_goto (tgt := 32) dX9_reach_26 (by decide) ?_
      refine lk_callS (as := [lk_vi (v), lk_vi 0, lk_vi 99]) (S := []) dX9_reach_32 rfl vX9_within rfl lX9_46 (Nat.le_of_ble_eq_true rfl) (tX9_within l X (d + 1) (lk_ms σ V T) τ (v := (v)) (a := (0 : Int32)) (b := (99 : Int32)) ) ?_
      refine lk_k3 ?_
      refine lk_cast (pc' := 35) (S' := [lk_vi (if (0 : Int32) ≤ (v) ∧ (v) ≤ (99 : Int32) then 1 else 0)]) rfl rfl rfl ?_
      refine lk_if_neB (tgt := 40) dX9_reach_35 (by decide) (fun hh5 => ?_) (fun hh5 => ?_)
      ·
        exact absurd hs (by simp_all [lk_rset])
      ·
        refine lk_iconst (v := (-1)) dX9_reach_38 (by decide) ?_
        refine lk_iret .int dX9_reach_39 rfl rfl ?_
        rw [hQ]
        exact ⟨by first | rfl | (simp [*]; done) | (simp_all; done) | grind, by first | rfl | (simp [*]; done), rfl⟩

set_option maxHeartbeats 1000000 in
set_option maxRecDepth 100000 in
theorem tX9_reach_0 (l : Launch) (X : lk_G) (d : Nat) (σ : lk_N) (τ : lk_T) (V T : lk_O) (n k : Nat) (hV : lk_cok V n) (hk : k ≤ n) (v : Int32) (hv : 0 ≤ v ∧ v ≤ 9999) : lk_Mt l X mX9_reach (d + 2) [lk_vr 1 0, lk_vi (nI (k)), lk_vi 0, lk_vi (v)] (lk_ms σ V T) τ (fun rr σ1 τ1 => rr = some (lk_vi (if lk_rchk V 0 k v = true then V 6 k else -5)) ∧ σ1 = (if lk_rchk V 0 k v = true then lk_ms σ (lk_ou V 6 k v) T else lk_ms σ V T) ∧ τ1 = τ) := by
  refine lk_met (L := [(0, lk_vr 1 0), (1, lk_vi (nI (k))), (2, lk_vi 0), (3, lk_vi (v))]) (by decide +kernel) (Nat.le_of_ble_eq_true rfl) rfl ?_
  obtain ⟨Q, hQ⟩ : ∃ Q : lk_Q, Q = fun rr σ1 τ1 => rr = some (lk_vi (if lk_rchk V 0 k v = true then V 6 k else -5)) ∧ σ1 = (if lk_rchk V 0 k v = true then lk_ms σ (lk_ou V 6 k v) T else lk_ms σ V T) ∧ τ1 = τ := ⟨_, rfl⟩
  rw [← hQ]
  have hk7 : k < 7 := by have := hV.2.2.1; omega
  refine lk_aload_n dX9_reach_0 rfl rfl ?_
  refine lk_iload_n dX9_reach_1 rfl rfl ?_
  refine lk_callV (o := 1) (as := [lk_vi (nI (k))]) (S := []) dX9_reach_2 rfl vX9_isReach rfl lX9_62 rfl rfl (Nat.le_of_ble_eq_true rfl) (tX9_isReach l X d (lk_ms σ V T) τ (k := (nI (k))) ) ?_
  refine lk_k3 ?_
  refine lk_cast (pc' := 5) (S' := [lk_vi (if (0 : Int32) ≤ (nI (k)) ∧ (nI (k)) ≤ (lk_ms σ V T) 1 0 53 then 1 else 0)]) rfl rfl rfl ?_
  refine lk_if_eqB (tgt := 38) dX9_reach_5 (by decide) (fun hh1 => absurd hh1 (fun q => q (lk_isr hV hk))) (fun hh1 => ?_)
  refine lk_iload_n dX9_reach_8 rfl rfl ?_
  refine lk_iconst (v := 0) dX9_reach_9 (by decide) ?_
  refine lk_iconst (v := 3) dX9_reach_10 (by decide) ?_
  refine lk_callS (as := [lk_vi 0, lk_vi 0, lk_vi 3]) (S := []) dX9_reach_11 rfl vX9_within rfl lX9_46 (Nat.le_of_ble_eq_true rfl) (tX9_within l X (d + 1) (lk_ms σ V T) τ (v := (0 : Int32)) (a := (0 : Int32)) (b := (3 : Int32)) ) ?_
  refine lk_k3 ?_
  refine lk_cast (pc' := 14) (S' := [lk_vi (if (0 : Int32) ≤ (0 : Int32) ∧ (0 : Int32) ≤ (3 : Int32) then 1 else 0)]) rfl rfl rfl ?_
  refine lk_if_eqB (tgt := 38) dX9_reach_14 (by decide) (fun hh2 => absurd hh2 (fun q => q (by decide))) (fun hh2 => ?_)
  refine lk_iload_n dX9_reach_17 rfl rfl ?_
  refine lk_iconst (v := 0) dX9_reach_18 (by decide) ?_
  refine lk_iload_n dX9_reach_19 rfl rfl ?_
  refine lk_iconst (v := 3) dX9_reach_20 (by decide) ?_
  refine lk_icmp_neN (a := 0) (b := 3) (tgt := 29) dX9_reach_21 (by decide) (by omega) (by omega) (fun hh3 => ?_) (fun hh3 => absurd hh3 (by decide))
  refine lk_sipush (v := 9999) dX9_reach_29 (by decide) ?_
  refine lk_callS (as := [lk_vi (v), lk_vi 0, lk_vi 9999]) (S := []) dX9_reach_32 rfl vX9_within rfl lX9_46 (Nat.le_of_ble_eq_true rfl) (tX9_within l X (d + 1) (lk_ms σ V T) τ (v := (v)) (a := (0 : Int32)) (b := (9999 : Int32)) ) ?_
  refine lk_k3 ?_
  refine lk_cast (pc' := 35) (S' := [lk_vi (if (0 : Int32) ≤ (v) ∧ (v) ≤ (9999 : Int32) then 1 else 0)]) rfl rfl rfl ?_
  refine lk_if_neB (tgt := 40) dX9_reach_35 (by decide) (fun hh4 => ?_) (fun hh4 => absurd hh4 (fun q => q hv))
  refine lk_iload_n dX9_reach_40 rfl rfl ?_
  refine lk_if_ne (tgt := 48) dX9_reach_41 (by decide) (fun hh5 => absurd hh5 (by decide)) (fun hh5 => ?_)
  refine lk_iload_n dX9_reach_44 rfl rfl ?_
  refine lk_goto (tgt := 57) dX9_reach_45 (by decide) ?_
  refine lk_istore (L' := [(0, lk_vr 1 0), (1, lk_vi (nI (k))), (2, lk_vi 0), (3, lk_vi (v)), (4, lk_vi (v))]) dX9_reach_57 (by decide +kernel) rfl ?_
  refine lk_iload_n dX9_reach_59 rfl rfl ?_
  refine lk_iconst (v := 1) dX9_reach_60 (by decide) ?_
  refine lk_icmp_neN (a := 0) (b := 1) (tgt := 68) dX9_reach_61 (by decide) (by omega) (by omega) (fun hh6 => ?_) (fun hh6 => absurd hh6 (by decide))
  refine lk_aload_n dX9_reach_68 rfl rfl ?_
  refine lk_getR (f := 0) dX9_reach_69 rfl fX9_9 (by decide) (by decide) ?_
  refine lk_bipush (v := 31) dX9_reach_72 (by decide) ?_
  refine lk_iload_n dX9_reach_74 rfl rfl ?_
  refine lk_iaddN (a := 31) (b := k) dX9_reach_75 ?_
  refine lk_ialdN (f := 0) (i := 31 + k) dX9_reach_76 rfl (by decide) rfl (by omega) (by decide) ?_
  refine lk_eqtop (y := (V 7 (k))) (lk_r7 (by omega) (by omega)) ?_
  refine lk_istore (L' := [(0, lk_vr 1 0), (1, lk_vi (nI (k))), (2, lk_vi 0), (3, lk_vi (v)), (4, lk_vi (v)), (5, lk_vi (V 7 (k)))]) dX9_reach_77 (by decide +kernel) rfl ?_
  refine lk_iload_n dX9_reach_79 rfl rfl ?_
  refine lk_iconst (v := 2) dX9_reach_80 (by decide) ?_
  refine lk_icmp_neN (a := 0) (b := 2) (tgt := 88) dX9_reach_81 (by decide) (by omega) (by omega) (fun hh7 => ?_) (fun hh7 => absurd hh7 (by decide))
  refine lk_aload_n dX9_reach_88 rfl rfl ?_
  refine lk_getR (f := 0) dX9_reach_89 rfl fX9_9 (by decide) (by decide) ?_
  refine lk_bipush (v := 38) dX9_reach_92 (by decide) ?_
  refine lk_iload_n dX9_reach_94 rfl rfl ?_
  refine lk_iaddN (a := 38) (b := k) dX9_reach_95 ?_
  refine lk_ialdN (f := 0) (i := 38 + k) dX9_reach_96 rfl (by decide) rfl (by omega) (by decide) ?_
  refine lk_eqtop (y := (V 8 (k))) (lk_r8 (by omega) (by omega)) ?_
  refine lk_istore (L' := [(0, lk_vr 1 0), (1, lk_vi (nI (k))), (2, lk_vi 0), (3, lk_vi (v)), (4, lk_vi (v)), (5, lk_vi (V 7 (k))), (6, lk_vi (V 8 (k)))]) dX9_reach_97 (by decide +kernel) rfl ?_
  refine lk_iload dX9_reach_99 rfl ?_
  refine lk_iload dX9_reach_101 rfl ?_
  refine lk_icmp_lt (tgt := 113) dX9_reach_103 (by decide) (fun hh8 => ?_) (fun hh8 => ?_)
  ·
    refine lk_bipush (v := (-5)) dX9_reach_113 (by decide) ?_
    refine lk_iret .int dX9_reach_115 rfl rfl ?_
    rw [hQ]
    rw [lk_rchk_f (w := 0) rfl rfl rfl (by first | exact Or.inl (by assumption) | exact Or.inr (by assumption))]
    exact ⟨rfl, rfl, rfl⟩
  ·
    refine lk_iload dX9_reach_106 rfl ?_
    refine lk_iload dX9_reach_108 rfl ?_
    refine lk_icmp_le (tgt := 116) dX9_reach_110 (by decide) (fun hh9 => ?_) (fun hh9 => ?_)
    ·
      refine lk_aload_n dX9_reach_116 rfl rfl ?_
      refine lk_bipush (v := 24) dX9_reach_117 (by decide) ?_
      refine lk_bipush (v := 7) dX9_reach_119 (by decide) ?_
      refine lk_iload_n dX9_reach_121 rfl rfl ?_
      refine lk_imulN (a := 7) (b := 0) dX9_reach_122 ?_
      refine lk_iaddN (a := 24) (b := 0) dX9_reach_123 ?_
      refine lk_iload_n dX9_reach_124 rfl rfl ?_
      refine lk_iaddN (a := 24) (b := k) dX9_reach_125 ?_
      refine lk_iload_n dX9_reach_126 rfl rfl ?_
      refine lk_callV (o := 1) (as := [lk_vi (nI (24 + k)), lk_vi (v)]) (S := []) dX9_reach_127 rfl vX9_becomes rfl lX9_54 rfl rfl (Nat.le_of_ble_eq_true rfl) (tX9_becomes l X (d + 1) (lk_ms σ V T) τ (f := (24 + k)) (v := (v)) (hf := by omega)) ?_
      refine lk_k3 ?_
      refine lk_cast (pc' := 130) (S' := [lk_vi ((lk_ms σ V T) 1 0 (24 + k))]) rfl rfl rfl ?_
      refine lk_eqtop (y := (V 6 (k))) (lk_r6 (by omega) (by omega)) ?_
      refine lk_sg (σ' := (lk_ms σ (lk_ou V 6 (k) (v)) T)) (lk_w6 (by omega) (by omega)) ?_
      refine lk_iret .int dX9_reach_130 rfl rfl ?_
      rw [hQ]
      rw [lk_rchk_t (w := 0) rfl rfl rfl (by assumption) (by assumption)]
      exact ⟨rfl, rfl, rfl⟩
    ·
      refine lk_bipush (v := (-5)) dX9_reach_113 (by decide) ?_
      refine lk_iret .int dX9_reach_115 rfl rfl ?_
      rw [hQ]
      rw [lk_rchk_f (w := 0) rfl rfl rfl (by first | exact Or.inl (by assumption) | exact Or.inr (by assumption))]
      exact ⟨rfl, rfl, rfl⟩

set_option maxHeartbeats 1000000 in
set_option maxRecDepth 100000 in
theorem tX9_ofReach_0 (l : Launch) (X : lk_G) (d : Nat) (σ : lk_N) (τ : lk_T) (V T : lk_O) (n k : Nat) (hV : lk_cok V n) (hk : k ≤ n)  : lk_Mt l X mX9_ofReach (d + 2) [lk_vr 1 0, lk_vi (nI (k)), lk_vi 0] (lk_ms σ V T) τ (fun rr σ1 τ1 => rr = some (lk_vi (V 6 k)) ∧ σ1 = (lk_ms σ V T) ∧ τ1 = τ) := by
  refine lk_met (L := [(0, lk_vr 1 0), (1, lk_vi (nI (k))), (2, lk_vi 0)]) (by decide +kernel) (Nat.le_of_ble_eq_true rfl) rfl ?_
  obtain ⟨Q, hQ⟩ : ∃ Q : lk_Q, Q = fun rr σ1 τ1 => rr = some (lk_vi (V 6 k)) ∧ σ1 = (lk_ms σ V T) ∧ τ1 = τ := ⟨_, rfl⟩
  rw [← hQ]
  have hk7 : k < 7 := by have := hV.2.2.1; omega
  refine lk_aload_n dX9_ofReach_0 rfl rfl ?_
  refine lk_iload_n dX9_ofReach_1 rfl rfl ?_
  refine lk_callV (o := 1) (as := [lk_vi (nI (k))]) (S := []) dX9_ofReach_2 rfl vX9_isReach rfl lX9_62 rfl rfl (Nat.le_of_ble_eq_true rfl) (tX9_isReach l X d (lk_ms σ V T) τ (k := (nI (k))) ) ?_
  refine lk_k3 ?_
  refine lk_cast (pc' := 5) (S' := [lk_vi (if (0 : Int32) ≤ (nI (k)) ∧ (nI (k)) ≤ (lk_ms σ V T) 1 0 53 then 1 else 0)]) rfl rfl rfl ?_
  refine lk_if_eqB (tgt := 17) dX9_ofReach_5 (by decide) (fun hh1 => absurd hh1 (fun q => q (lk_isr hV hk))) (fun hh1 => ?_)
  refine lk_iload_n dX9_ofReach_8 rfl rfl ?_
  refine lk_iconst (v := 0) dX9_ofReach_9 (by decide) ?_
  refine lk_iconst (v := 4) dX9_ofReach_10 (by decide) ?_
  refine lk_callS (as := [lk_vi 0, lk_vi 0, lk_vi 4]) (S := []) dX9_ofReach_11 rfl vX9_within rfl lX9_46 (Nat.le_of_ble_eq_true rfl) (tX9_within l X (d + 1) (lk_ms σ V T) τ (v := (0 : Int32)) (a := (0 : Int32)) (b := (4 : Int32)) ) ?_
  refine lk_k3 ?_
  refine lk_cast (pc' := 14) (S' := [lk_vi (if (0 : Int32) ≤ (0 : Int32) ∧ (0 : Int32) ≤ (4 : Int32) then 1 else 0)]) rfl rfl rfl ?_
  refine lk_if_neB (tgt := 19) dX9_ofReach_14 (by decide) (fun hh2 => ?_) (fun hh2 => absurd hh2 (fun q => q (by decide)))
  refine lk_iload_n dX9_ofReach_19 rfl rfl ?_
  refine lk_iconst (v := 4) dX9_ofReach_20 (by decide) ?_
  refine lk_icmp_geN (a := 0) (b := 4) (tgt := 39) dX9_ofReach_21 (by decide) (by omega) (by omega) (fun hh3 => absurd hh3 (by decide)) (fun hh3 => ?_)
  refine lk_aload_n dX9_ofReach_24 rfl rfl ?_
  refine lk_getR (f := 0) dX9_ofReach_25 rfl fX9_9 (by decide) (by decide) ?_
  refine lk_bipush (v := 24) dX9_ofReach_28 (by decide) ?_
  refine lk_bipush (v := 7) dX9_ofReach_30 (by decide) ?_
  refine lk_iload_n dX9_ofReach_32 rfl rfl ?_
  refine lk_imulN (a := 7) (b := 0) dX9_ofReach_33 ?_
  refine lk_iaddN (a := 24) (b := 0) dX9_ofReach_34 ?_
  refine lk_iload_n dX9_ofReach_35 rfl rfl ?_
  refine lk_iaddN (a := 24) (b := k) dX9_ofReach_36 ?_
  refine lk_ialdN (f := 0) (i := 24 + k) dX9_ofReach_37 rfl (by decide) rfl (by omega) (by decide) ?_
  refine lk_eqtop (y := (V 6 (k))) (lk_r6 (by omega) (by omega)) ?_
  refine lk_iret .int dX9_ofReach_38 rfl rfl ?_
  rw [hQ]
  exact ⟨by first | rfl | (simp [*]; done) | (simp_all; done) | grind, by first | rfl | (simp [*]; done), rfl⟩

set_option maxHeartbeats 1000000 in
set_option maxRecDepth 100000 in
theorem tX9_reach_1 (l : Launch) (X : lk_G) (d : Nat) (σ : lk_N) (τ : lk_T) (V T : lk_O) (n k : Nat) (hV : lk_cok V n) (hk : k ≤ n) (v : Int32) (hv : 0 ≤ v ∧ v ≤ 9999) : lk_Mt l X mX9_reach (d + 2) [lk_vr 1 0, lk_vi (nI (k)), lk_vi 1, lk_vi (v)] (lk_ms σ V T) τ (fun rr σ1 τ1 => rr = some (lk_vi (if lk_rchk V 1 k v = true then V 7 k else -5)) ∧ σ1 = (if lk_rchk V 1 k v = true then lk_ms σ (lk_ou V 7 k v) T else lk_ms σ V T) ∧ τ1 = τ) := by
  refine lk_met (L := [(0, lk_vr 1 0), (1, lk_vi (nI (k))), (2, lk_vi 1), (3, lk_vi (v))]) (by decide +kernel) (Nat.le_of_ble_eq_true rfl) rfl ?_
  obtain ⟨Q, hQ⟩ : ∃ Q : lk_Q, Q = fun rr σ1 τ1 => rr = some (lk_vi (if lk_rchk V 1 k v = true then V 7 k else -5)) ∧ σ1 = (if lk_rchk V 1 k v = true then lk_ms σ (lk_ou V 7 k v) T else lk_ms σ V T) ∧ τ1 = τ := ⟨_, rfl⟩
  rw [← hQ]
  have hk7 : k < 7 := by have := hV.2.2.1; omega
  refine lk_aload_n dX9_reach_0 rfl rfl ?_
  refine lk_iload_n dX9_reach_1 rfl rfl ?_
  refine lk_callV (o := 1) (as := [lk_vi (nI (k))]) (S := []) dX9_reach_2 rfl vX9_isReach rfl lX9_62 rfl rfl (Nat.le_of_ble_eq_true rfl) (tX9_isReach l X d (lk_ms σ V T) τ (k := (nI (k))) ) ?_
  refine lk_k3 ?_
  refine lk_cast (pc' := 5) (S' := [lk_vi (if (0 : Int32) ≤ (nI (k)) ∧ (nI (k)) ≤ (lk_ms σ V T) 1 0 53 then 1 else 0)]) rfl rfl rfl ?_
  refine lk_if_eqB (tgt := 38) dX9_reach_5 (by decide) (fun hh1 => absurd hh1 (fun q => q (lk_isr hV hk))) (fun hh1 => ?_)
  refine lk_iload_n dX9_reach_8 rfl rfl ?_
  refine lk_iconst (v := 0) dX9_reach_9 (by decide) ?_
  refine lk_iconst (v := 3) dX9_reach_10 (by decide) ?_
  refine lk_callS (as := [lk_vi 1, lk_vi 0, lk_vi 3]) (S := []) dX9_reach_11 rfl vX9_within rfl lX9_46 (Nat.le_of_ble_eq_true rfl) (tX9_within l X (d + 1) (lk_ms σ V T) τ (v := (1 : Int32)) (a := (0 : Int32)) (b := (3 : Int32)) ) ?_
  refine lk_k3 ?_
  refine lk_cast (pc' := 14) (S' := [lk_vi (if (0 : Int32) ≤ (1 : Int32) ∧ (1 : Int32) ≤ (3 : Int32) then 1 else 0)]) rfl rfl rfl ?_
  refine lk_if_eqB (tgt := 38) dX9_reach_14 (by decide) (fun hh2 => absurd hh2 (fun q => q (by decide))) (fun hh2 => ?_)
  refine lk_iload_n dX9_reach_17 rfl rfl ?_
  refine lk_iconst (v := 0) dX9_reach_18 (by decide) ?_
  refine lk_iload_n dX9_reach_19 rfl rfl ?_
  refine lk_iconst (v := 3) dX9_reach_20 (by decide) ?_
  refine lk_icmp_neN (a := 1) (b := 3) (tgt := 29) dX9_reach_21 (by decide) (by omega) (by omega) (fun hh3 => ?_) (fun hh3 => absurd hh3 (by decide))
  refine lk_sipush (v := 9999) dX9_reach_29 (by decide) ?_
  refine lk_callS (as := [lk_vi (v), lk_vi 0, lk_vi 9999]) (S := []) dX9_reach_32 rfl vX9_within rfl lX9_46 (Nat.le_of_ble_eq_true rfl) (tX9_within l X (d + 1) (lk_ms σ V T) τ (v := (v)) (a := (0 : Int32)) (b := (9999 : Int32)) ) ?_
  refine lk_k3 ?_
  refine lk_cast (pc' := 35) (S' := [lk_vi (if (0 : Int32) ≤ (v) ∧ (v) ≤ (9999 : Int32) then 1 else 0)]) rfl rfl rfl ?_
  refine lk_if_neB (tgt := 40) dX9_reach_35 (by decide) (fun hh4 => ?_) (fun hh4 => absurd hh4 (fun q => q hv))
  refine lk_iload_n dX9_reach_40 rfl rfl ?_
  refine lk_if_ne (tgt := 48) dX9_reach_41 (by decide) (fun hh5 => ?_) (fun hh5 => absurd hh5 (by decide))
  refine lk_aload_n dX9_reach_48 rfl rfl ?_
  refine lk_getR (f := 0) dX9_reach_49 rfl fX9_9 (by decide) (by decide) ?_
  refine lk_bipush (v := 24) dX9_reach_52 (by decide) ?_
  refine lk_iload_n dX9_reach_54 rfl rfl ?_
  refine lk_iaddN (a := 24) (b := k) dX9_reach_55 ?_
  refine lk_ialdN (f := 0) (i := 24 + k) dX9_reach_56 rfl (by decide) rfl (by omega) (by decide) ?_
  refine lk_eqtop (y := (V 6 (k))) (lk_r6 (by omega) (by omega)) ?_
  refine lk_istore (L' := [(0, lk_vr 1 0), (1, lk_vi (nI (k))), (2, lk_vi 1), (3, lk_vi (v)), (4, lk_vi (V 6 (k)))]) dX9_reach_57 (by decide +kernel) rfl ?_
  refine lk_iload_n dX9_reach_59 rfl rfl ?_
  refine lk_iconst (v := 1) dX9_reach_60 (by decide) ?_
  refine lk_icmp_neN (a := 1) (b := 1) (tgt := 68) dX9_reach_61 (by decide) (by omega) (by omega) (fun hh6 => absurd hh6 (by decide)) (fun hh6 => ?_)
  refine lk_iload_n dX9_reach_64 rfl rfl ?_
  refine lk_goto (tgt := 77) dX9_reach_65 (by decide) ?_
  refine lk_istore (L' := [(0, lk_vr 1 0), (1, lk_vi (nI (k))), (2, lk_vi 1), (3, lk_vi (v)), (4, lk_vi (V 6 (k))), (5, lk_vi (v))]) dX9_reach_77 (by decide +kernel) rfl ?_
  refine lk_iload_n dX9_reach_79 rfl rfl ?_
  refine lk_iconst (v := 2) dX9_reach_80 (by decide) ?_
  refine lk_icmp_neN (a := 1) (b := 2) (tgt := 88) dX9_reach_81 (by decide) (by omega) (by omega) (fun hh7 => ?_) (fun hh7 => absurd hh7 (by decide))
  refine lk_aload_n dX9_reach_88 rfl rfl ?_
  refine lk_getR (f := 0) dX9_reach_89 rfl fX9_9 (by decide) (by decide) ?_
  refine lk_bipush (v := 38) dX9_reach_92 (by decide) ?_
  refine lk_iload_n dX9_reach_94 rfl rfl ?_
  refine lk_iaddN (a := 38) (b := k) dX9_reach_95 ?_
  refine lk_ialdN (f := 0) (i := 38 + k) dX9_reach_96 rfl (by decide) rfl (by omega) (by decide) ?_
  refine lk_eqtop (y := (V 8 (k))) (lk_r8 (by omega) (by omega)) ?_
  refine lk_istore (L' := [(0, lk_vr 1 0), (1, lk_vi (nI (k))), (2, lk_vi 1), (3, lk_vi (v)), (4, lk_vi (V 6 (k))), (5, lk_vi (v)), (6, lk_vi (V 8 (k)))]) dX9_reach_97 (by decide +kernel) rfl ?_
  refine lk_iload dX9_reach_99 rfl ?_
  refine lk_iload dX9_reach_101 rfl ?_
  refine lk_icmp_lt (tgt := 113) dX9_reach_103 (by decide) (fun hh8 => ?_) (fun hh8 => ?_)
  ·
    refine lk_bipush (v := (-5)) dX9_reach_113 (by decide) ?_
    refine lk_iret .int dX9_reach_115 rfl rfl ?_
    rw [hQ]
    rw [lk_rchk_f (w := 1) rfl rfl rfl (by first | exact Or.inl (by assumption) | exact Or.inr (by assumption))]
    exact ⟨rfl, rfl, rfl⟩
  ·
    refine lk_iload dX9_reach_106 rfl ?_
    refine lk_iload dX9_reach_108 rfl ?_
    refine lk_icmp_le (tgt := 116) dX9_reach_110 (by decide) (fun hh9 => ?_) (fun hh9 => ?_)
    ·
      refine lk_aload_n dX9_reach_116 rfl rfl ?_
      refine lk_bipush (v := 24) dX9_reach_117 (by decide) ?_
      refine lk_bipush (v := 7) dX9_reach_119 (by decide) ?_
      refine lk_iload_n dX9_reach_121 rfl rfl ?_
      refine lk_imulN (a := 7) (b := 1) dX9_reach_122 ?_
      refine lk_iaddN (a := 24) (b := 7) dX9_reach_123 ?_
      refine lk_iload_n dX9_reach_124 rfl rfl ?_
      refine lk_iaddN (a := 31) (b := k) dX9_reach_125 ?_
      refine lk_iload_n dX9_reach_126 rfl rfl ?_
      refine lk_callV (o := 1) (as := [lk_vi (nI (31 + k)), lk_vi (v)]) (S := []) dX9_reach_127 rfl vX9_becomes rfl lX9_54 rfl rfl (Nat.le_of_ble_eq_true rfl) (tX9_becomes l X (d + 1) (lk_ms σ V T) τ (f := (31 + k)) (v := (v)) (hf := by omega)) ?_
      refine lk_k3 ?_
      refine lk_cast (pc' := 130) (S' := [lk_vi ((lk_ms σ V T) 1 0 (31 + k))]) rfl rfl rfl ?_
      refine lk_eqtop (y := (V 7 (k))) (lk_r7 (by omega) (by omega)) ?_
      refine lk_sg (σ' := (lk_ms σ (lk_ou V 7 (k) (v)) T)) (lk_w7 (by omega) (by omega)) ?_
      refine lk_iret .int dX9_reach_130 rfl rfl ?_
      rw [hQ]
      rw [lk_rchk_t (w := 1) rfl rfl rfl (by assumption) (by assumption)]
      exact ⟨rfl, rfl, rfl⟩
    ·
      refine lk_bipush (v := (-5)) dX9_reach_113 (by decide) ?_
      refine lk_iret .int dX9_reach_115 rfl rfl ?_
      rw [hQ]
      rw [lk_rchk_f (w := 1) rfl rfl rfl (by first | exact Or.inl (by assumption) | exact Or.inr (by assumption))]
      exact ⟨rfl, rfl, rfl⟩

set_option maxHeartbeats 1000000 in
set_option maxRecDepth 100000 in
theorem tX9_ofReach_1 (l : Launch) (X : lk_G) (d : Nat) (σ : lk_N) (τ : lk_T) (V T : lk_O) (n k : Nat) (hV : lk_cok V n) (hk : k ≤ n)  : lk_Mt l X mX9_ofReach (d + 2) [lk_vr 1 0, lk_vi (nI (k)), lk_vi 1] (lk_ms σ V T) τ (fun rr σ1 τ1 => rr = some (lk_vi (V 7 k)) ∧ σ1 = (lk_ms σ V T) ∧ τ1 = τ) := by
  refine lk_met (L := [(0, lk_vr 1 0), (1, lk_vi (nI (k))), (2, lk_vi 1)]) (by decide +kernel) (Nat.le_of_ble_eq_true rfl) rfl ?_
  obtain ⟨Q, hQ⟩ : ∃ Q : lk_Q, Q = fun rr σ1 τ1 => rr = some (lk_vi (V 7 k)) ∧ σ1 = (lk_ms σ V T) ∧ τ1 = τ := ⟨_, rfl⟩
  rw [← hQ]
  have hk7 : k < 7 := by have := hV.2.2.1; omega
  refine lk_aload_n dX9_ofReach_0 rfl rfl ?_
  refine lk_iload_n dX9_ofReach_1 rfl rfl ?_
  refine lk_callV (o := 1) (as := [lk_vi (nI (k))]) (S := []) dX9_ofReach_2 rfl vX9_isReach rfl lX9_62 rfl rfl (Nat.le_of_ble_eq_true rfl) (tX9_isReach l X d (lk_ms σ V T) τ (k := (nI (k))) ) ?_
  refine lk_k3 ?_
  refine lk_cast (pc' := 5) (S' := [lk_vi (if (0 : Int32) ≤ (nI (k)) ∧ (nI (k)) ≤ (lk_ms σ V T) 1 0 53 then 1 else 0)]) rfl rfl rfl ?_
  refine lk_if_eqB (tgt := 17) dX9_ofReach_5 (by decide) (fun hh1 => absurd hh1 (fun q => q (lk_isr hV hk))) (fun hh1 => ?_)
  refine lk_iload_n dX9_ofReach_8 rfl rfl ?_
  refine lk_iconst (v := 0) dX9_ofReach_9 (by decide) ?_
  refine lk_iconst (v := 4) dX9_ofReach_10 (by decide) ?_
  refine lk_callS (as := [lk_vi 1, lk_vi 0, lk_vi 4]) (S := []) dX9_ofReach_11 rfl vX9_within rfl lX9_46 (Nat.le_of_ble_eq_true rfl) (tX9_within l X (d + 1) (lk_ms σ V T) τ (v := (1 : Int32)) (a := (0 : Int32)) (b := (4 : Int32)) ) ?_
  refine lk_k3 ?_
  refine lk_cast (pc' := 14) (S' := [lk_vi (if (0 : Int32) ≤ (1 : Int32) ∧ (1 : Int32) ≤ (4 : Int32) then 1 else 0)]) rfl rfl rfl ?_
  refine lk_if_neB (tgt := 19) dX9_ofReach_14 (by decide) (fun hh2 => ?_) (fun hh2 => absurd hh2 (fun q => q (by decide)))
  refine lk_iload_n dX9_ofReach_19 rfl rfl ?_
  refine lk_iconst (v := 4) dX9_ofReach_20 (by decide) ?_
  refine lk_icmp_geN (a := 1) (b := 4) (tgt := 39) dX9_ofReach_21 (by decide) (by omega) (by omega) (fun hh3 => absurd hh3 (by decide)) (fun hh3 => ?_)
  refine lk_aload_n dX9_ofReach_24 rfl rfl ?_
  refine lk_getR (f := 0) dX9_ofReach_25 rfl fX9_9 (by decide) (by decide) ?_
  refine lk_bipush (v := 24) dX9_ofReach_28 (by decide) ?_
  refine lk_bipush (v := 7) dX9_ofReach_30 (by decide) ?_
  refine lk_iload_n dX9_ofReach_32 rfl rfl ?_
  refine lk_imulN (a := 7) (b := 1) dX9_ofReach_33 ?_
  refine lk_iaddN (a := 24) (b := 7) dX9_ofReach_34 ?_
  refine lk_iload_n dX9_ofReach_35 rfl rfl ?_
  refine lk_iaddN (a := 31) (b := k) dX9_ofReach_36 ?_
  refine lk_ialdN (f := 0) (i := 31 + k) dX9_ofReach_37 rfl (by decide) rfl (by omega) (by decide) ?_
  refine lk_eqtop (y := (V 7 (k))) (lk_r7 (by omega) (by omega)) ?_
  refine lk_iret .int dX9_ofReach_38 rfl rfl ?_
  rw [hQ]
  exact ⟨by first | rfl | (simp [*]; done) | (simp_all; done) | grind, by first | rfl | (simp [*]; done), rfl⟩

set_option maxHeartbeats 1000000 in
set_option maxRecDepth 100000 in
theorem tX9_reach_2 (l : Launch) (X : lk_G) (d : Nat) (σ : lk_N) (τ : lk_T) (V T : lk_O) (n k : Nat) (hV : lk_cok V n) (hk : k ≤ n) (v : Int32) (hv : 0 ≤ v ∧ v ≤ 9999) : lk_Mt l X mX9_reach (d + 2) [lk_vr 1 0, lk_vi (nI (k)), lk_vi 2, lk_vi (v)] (lk_ms σ V T) τ (fun rr σ1 τ1 => rr = some (lk_vi (if lk_rchk V 2 k v = true then V 8 k else -5)) ∧ σ1 = (if lk_rchk V 2 k v = true then lk_ms σ (lk_ou V 8 k v) T else lk_ms σ V T) ∧ τ1 = τ) := by
  refine lk_met (L := [(0, lk_vr 1 0), (1, lk_vi (nI (k))), (2, lk_vi 2), (3, lk_vi (v))]) (by decide +kernel) (Nat.le_of_ble_eq_true rfl) rfl ?_
  obtain ⟨Q, hQ⟩ : ∃ Q : lk_Q, Q = fun rr σ1 τ1 => rr = some (lk_vi (if lk_rchk V 2 k v = true then V 8 k else -5)) ∧ σ1 = (if lk_rchk V 2 k v = true then lk_ms σ (lk_ou V 8 k v) T else lk_ms σ V T) ∧ τ1 = τ := ⟨_, rfl⟩
  rw [← hQ]
  have hk7 : k < 7 := by have := hV.2.2.1; omega
  refine lk_aload_n dX9_reach_0 rfl rfl ?_
  refine lk_iload_n dX9_reach_1 rfl rfl ?_
  refine lk_callV (o := 1) (as := [lk_vi (nI (k))]) (S := []) dX9_reach_2 rfl vX9_isReach rfl lX9_62 rfl rfl (Nat.le_of_ble_eq_true rfl) (tX9_isReach l X d (lk_ms σ V T) τ (k := (nI (k))) ) ?_
  refine lk_k3 ?_
  refine lk_cast (pc' := 5) (S' := [lk_vi (if (0 : Int32) ≤ (nI (k)) ∧ (nI (k)) ≤ (lk_ms σ V T) 1 0 53 then 1 else 0)]) rfl rfl rfl ?_
  refine lk_if_eqB (tgt := 38) dX9_reach_5 (by decide) (fun hh1 => absurd hh1 (fun q => q (lk_isr hV hk))) (fun hh1 => ?_)
  refine lk_iload_n dX9_reach_8 rfl rfl ?_
  refine lk_iconst (v := 0) dX9_reach_9 (by decide) ?_
  refine lk_iconst (v := 3) dX9_reach_10 (by decide) ?_
  refine lk_callS (as := [lk_vi 2, lk_vi 0, lk_vi 3]) (S := []) dX9_reach_11 rfl vX9_within rfl lX9_46 (Nat.le_of_ble_eq_true rfl) (tX9_within l X (d + 1) (lk_ms σ V T) τ (v := (2 : Int32)) (a := (0 : Int32)) (b := (3 : Int32)) ) ?_
  refine lk_k3 ?_
  refine lk_cast (pc' := 14) (S' := [lk_vi (if (0 : Int32) ≤ (2 : Int32) ∧ (2 : Int32) ≤ (3 : Int32) then 1 else 0)]) rfl rfl rfl ?_
  refine lk_if_eqB (tgt := 38) dX9_reach_14 (by decide) (fun hh2 => absurd hh2 (fun q => q (by decide))) (fun hh2 => ?_)
  refine lk_iload_n dX9_reach_17 rfl rfl ?_
  refine lk_iconst (v := 0) dX9_reach_18 (by decide) ?_
  refine lk_iload_n dX9_reach_19 rfl rfl ?_
  refine lk_iconst (v := 3) dX9_reach_20 (by decide) ?_
  refine lk_icmp_neN (a := 2) (b := 3) (tgt := 29) dX9_reach_21 (by decide) (by omega) (by omega) (fun hh3 => ?_) (fun hh3 => absurd hh3 (by decide))
  refine lk_sipush (v := 9999) dX9_reach_29 (by decide) ?_
  refine lk_callS (as := [lk_vi (v), lk_vi 0, lk_vi 9999]) (S := []) dX9_reach_32 rfl vX9_within rfl lX9_46 (Nat.le_of_ble_eq_true rfl) (tX9_within l X (d + 1) (lk_ms σ V T) τ (v := (v)) (a := (0 : Int32)) (b := (9999 : Int32)) ) ?_
  refine lk_k3 ?_
  refine lk_cast (pc' := 35) (S' := [lk_vi (if (0 : Int32) ≤ (v) ∧ (v) ≤ (9999 : Int32) then 1 else 0)]) rfl rfl rfl ?_
  refine lk_if_neB (tgt := 40) dX9_reach_35 (by decide) (fun hh4 => ?_) (fun hh4 => absurd hh4 (fun q => q hv))
  refine lk_iload_n dX9_reach_40 rfl rfl ?_
  refine lk_if_ne (tgt := 48) dX9_reach_41 (by decide) (fun hh5 => ?_) (fun hh5 => absurd hh5 (by decide))
  refine lk_aload_n dX9_reach_48 rfl rfl ?_
  refine lk_getR (f := 0) dX9_reach_49 rfl fX9_9 (by decide) (by decide) ?_
  refine lk_bipush (v := 24) dX9_reach_52 (by decide) ?_
  refine lk_iload_n dX9_reach_54 rfl rfl ?_
  refine lk_iaddN (a := 24) (b := k) dX9_reach_55 ?_
  refine lk_ialdN (f := 0) (i := 24 + k) dX9_reach_56 rfl (by decide) rfl (by omega) (by decide) ?_
  refine lk_eqtop (y := (V 6 (k))) (lk_r6 (by omega) (by omega)) ?_
  refine lk_istore (L' := [(0, lk_vr 1 0), (1, lk_vi (nI (k))), (2, lk_vi 2), (3, lk_vi (v)), (4, lk_vi (V 6 (k)))]) dX9_reach_57 (by decide +kernel) rfl ?_
  refine lk_iload_n dX9_reach_59 rfl rfl ?_
  refine lk_iconst (v := 1) dX9_reach_60 (by decide) ?_
  refine lk_icmp_neN (a := 2) (b := 1) (tgt := 68) dX9_reach_61 (by decide) (by omega) (by omega) (fun hh6 => ?_) (fun hh6 => absurd hh6 (by decide))
  refine lk_aload_n dX9_reach_68 rfl rfl ?_
  refine lk_getR (f := 0) dX9_reach_69 rfl fX9_9 (by decide) (by decide) ?_
  refine lk_bipush (v := 31) dX9_reach_72 (by decide) ?_
  refine lk_iload_n dX9_reach_74 rfl rfl ?_
  refine lk_iaddN (a := 31) (b := k) dX9_reach_75 ?_
  refine lk_ialdN (f := 0) (i := 31 + k) dX9_reach_76 rfl (by decide) rfl (by omega) (by decide) ?_
  refine lk_eqtop (y := (V 7 (k))) (lk_r7 (by omega) (by omega)) ?_
  refine lk_istore (L' := [(0, lk_vr 1 0), (1, lk_vi (nI (k))), (2, lk_vi 2), (3, lk_vi (v)), (4, lk_vi (V 6 (k))), (5, lk_vi (V 7 (k)))]) dX9_reach_77 (by decide +kernel) rfl ?_
  refine lk_iload_n dX9_reach_79 rfl rfl ?_
  refine lk_iconst (v := 2) dX9_reach_80 (by decide) ?_
  refine lk_icmp_neN (a := 2) (b := 2) (tgt := 88) dX9_reach_81 (by decide) (by omega) (by omega) (fun hh7 => absurd hh7 (by decide)) (fun hh7 => ?_)
  refine lk_iload_n dX9_reach_84 rfl rfl ?_
  refine lk_goto (tgt := 97) dX9_reach_85 (by decide) ?_
  refine lk_istore (L' := [(0, lk_vr 1 0), (1, lk_vi (nI (k))), (2, lk_vi 2), (3, lk_vi (v)), (4, lk_vi (V 6 (k))), (5, lk_vi (V 7 (k))), (6, lk_vi (v))]) dX9_reach_97 (by decide +kernel) rfl ?_
  refine lk_iload dX9_reach_99 rfl ?_
  refine lk_iload dX9_reach_101 rfl ?_
  refine lk_icmp_lt (tgt := 113) dX9_reach_103 (by decide) (fun hh8 => ?_) (fun hh8 => ?_)
  ·
    refine lk_bipush (v := (-5)) dX9_reach_113 (by decide) ?_
    refine lk_iret .int dX9_reach_115 rfl rfl ?_
    rw [hQ]
    rw [lk_rchk_f (w := 2) rfl rfl rfl (by first | exact Or.inl (by assumption) | exact Or.inr (by assumption))]
    exact ⟨rfl, rfl, rfl⟩
  ·
    refine lk_iload dX9_reach_106 rfl ?_
    refine lk_iload dX9_reach_108 rfl ?_
    refine lk_icmp_le (tgt := 116) dX9_reach_110 (by decide) (fun hh9 => ?_) (fun hh9 => ?_)
    ·
      refine lk_aload_n dX9_reach_116 rfl rfl ?_
      refine lk_bipush (v := 24) dX9_reach_117 (by decide) ?_
      refine lk_bipush (v := 7) dX9_reach_119 (by decide) ?_
      refine lk_iload_n dX9_reach_121 rfl rfl ?_
      refine lk_imulN (a := 7) (b := 2) dX9_reach_122 ?_
      refine lk_iaddN (a := 24) (b := 14) dX9_reach_123 ?_
      refine lk_iload_n dX9_reach_124 rfl rfl ?_
      refine lk_iaddN (a := 38) (b := k) dX9_reach_125 ?_
      refine lk_iload_n dX9_reach_126 rfl rfl ?_
      refine lk_callV (o := 1) (as := [lk_vi (nI (38 + k)), lk_vi (v)]) (S := []) dX9_reach_127 rfl vX9_becomes rfl lX9_54 rfl rfl (Nat.le_of_ble_eq_true rfl) (tX9_becomes l X (d + 1) (lk_ms σ V T) τ (f := (38 + k)) (v := (v)) (hf := by omega)) ?_
      refine lk_k3 ?_
      refine lk_cast (pc' := 130) (S' := [lk_vi ((lk_ms σ V T) 1 0 (38 + k))]) rfl rfl rfl ?_
      refine lk_eqtop (y := (V 8 (k))) (lk_r8 (by omega) (by omega)) ?_
      refine lk_sg (σ' := (lk_ms σ (lk_ou V 8 (k) (v)) T)) (lk_w8 (by omega) (by omega)) ?_
      refine lk_iret .int dX9_reach_130 rfl rfl ?_
      rw [hQ]
      rw [lk_rchk_t (w := 2) rfl rfl rfl (by assumption) (by assumption)]
      exact ⟨rfl, rfl, rfl⟩
    ·
      refine lk_bipush (v := (-5)) dX9_reach_113 (by decide) ?_
      refine lk_iret .int dX9_reach_115 rfl rfl ?_
      rw [hQ]
      rw [lk_rchk_f (w := 2) rfl rfl rfl (by first | exact Or.inl (by assumption) | exact Or.inr (by assumption))]
      exact ⟨rfl, rfl, rfl⟩

set_option maxHeartbeats 1000000 in
set_option maxRecDepth 100000 in
theorem tX9_ofReach_2 (l : Launch) (X : lk_G) (d : Nat) (σ : lk_N) (τ : lk_T) (V T : lk_O) (n k : Nat) (hV : lk_cok V n) (hk : k ≤ n)  : lk_Mt l X mX9_ofReach (d + 2) [lk_vr 1 0, lk_vi (nI (k)), lk_vi 2] (lk_ms σ V T) τ (fun rr σ1 τ1 => rr = some (lk_vi (V 8 k)) ∧ σ1 = (lk_ms σ V T) ∧ τ1 = τ) := by
  refine lk_met (L := [(0, lk_vr 1 0), (1, lk_vi (nI (k))), (2, lk_vi 2)]) (by decide +kernel) (Nat.le_of_ble_eq_true rfl) rfl ?_
  obtain ⟨Q, hQ⟩ : ∃ Q : lk_Q, Q = fun rr σ1 τ1 => rr = some (lk_vi (V 8 k)) ∧ σ1 = (lk_ms σ V T) ∧ τ1 = τ := ⟨_, rfl⟩
  rw [← hQ]
  have hk7 : k < 7 := by have := hV.2.2.1; omega
  refine lk_aload_n dX9_ofReach_0 rfl rfl ?_
  refine lk_iload_n dX9_ofReach_1 rfl rfl ?_
  refine lk_callV (o := 1) (as := [lk_vi (nI (k))]) (S := []) dX9_ofReach_2 rfl vX9_isReach rfl lX9_62 rfl rfl (Nat.le_of_ble_eq_true rfl) (tX9_isReach l X d (lk_ms σ V T) τ (k := (nI (k))) ) ?_
  refine lk_k3 ?_
  refine lk_cast (pc' := 5) (S' := [lk_vi (if (0 : Int32) ≤ (nI (k)) ∧ (nI (k)) ≤ (lk_ms σ V T) 1 0 53 then 1 else 0)]) rfl rfl rfl ?_
  refine lk_if_eqB (tgt := 17) dX9_ofReach_5 (by decide) (fun hh1 => absurd hh1 (fun q => q (lk_isr hV hk))) (fun hh1 => ?_)
  refine lk_iload_n dX9_ofReach_8 rfl rfl ?_
  refine lk_iconst (v := 0) dX9_ofReach_9 (by decide) ?_
  refine lk_iconst (v := 4) dX9_ofReach_10 (by decide) ?_
  refine lk_callS (as := [lk_vi 2, lk_vi 0, lk_vi 4]) (S := []) dX9_ofReach_11 rfl vX9_within rfl lX9_46 (Nat.le_of_ble_eq_true rfl) (tX9_within l X (d + 1) (lk_ms σ V T) τ (v := (2 : Int32)) (a := (0 : Int32)) (b := (4 : Int32)) ) ?_
  refine lk_k3 ?_
  refine lk_cast (pc' := 14) (S' := [lk_vi (if (0 : Int32) ≤ (2 : Int32) ∧ (2 : Int32) ≤ (4 : Int32) then 1 else 0)]) rfl rfl rfl ?_
  refine lk_if_neB (tgt := 19) dX9_ofReach_14 (by decide) (fun hh2 => ?_) (fun hh2 => absurd hh2 (fun q => q (by decide)))
  refine lk_iload_n dX9_ofReach_19 rfl rfl ?_
  refine lk_iconst (v := 4) dX9_ofReach_20 (by decide) ?_
  refine lk_icmp_geN (a := 2) (b := 4) (tgt := 39) dX9_ofReach_21 (by decide) (by omega) (by omega) (fun hh3 => absurd hh3 (by decide)) (fun hh3 => ?_)
  refine lk_aload_n dX9_ofReach_24 rfl rfl ?_
  refine lk_getR (f := 0) dX9_ofReach_25 rfl fX9_9 (by decide) (by decide) ?_
  refine lk_bipush (v := 24) dX9_ofReach_28 (by decide) ?_
  refine lk_bipush (v := 7) dX9_ofReach_30 (by decide) ?_
  refine lk_iload_n dX9_ofReach_32 rfl rfl ?_
  refine lk_imulN (a := 7) (b := 2) dX9_ofReach_33 ?_
  refine lk_iaddN (a := 24) (b := 14) dX9_ofReach_34 ?_
  refine lk_iload_n dX9_ofReach_35 rfl rfl ?_
  refine lk_iaddN (a := 38) (b := k) dX9_ofReach_36 ?_
  refine lk_ialdN (f := 0) (i := 38 + k) dX9_ofReach_37 rfl (by decide) rfl (by omega) (by decide) ?_
  refine lk_eqtop (y := (V 8 (k))) (lk_r8 (by omega) (by omega)) ?_
  refine lk_iret .int dX9_ofReach_38 rfl rfl ?_
  rw [hQ]
  exact ⟨by first | rfl | (simp [*]; done) | (simp_all; done) | grind, by first | rfl | (simp [*]; done), rfl⟩

set_option maxHeartbeats 1000000 in
set_option maxRecDepth 100000 in
theorem tX9_reach_3 (l : Launch) (X : lk_G) (d : Nat) (σ : lk_N) (τ : lk_T) (V T : lk_O) (n k : Nat) (hV : lk_cok V n) (hk : k ≤ n) (v : Int32) (hv : 0 ≤ v ∧ v ≤ 99) : lk_Mt l X mX9_reach (d + 2) [lk_vr 1 0, lk_vi (nI (k)), lk_vi 3, lk_vi (v)] (lk_ms σ V T) τ (fun rr σ1 τ1 => rr = some (lk_vi (if lk_rchk V 3 k v = true then V 9 k else -5)) ∧ σ1 = (if lk_rchk V 3 k v = true then lk_ms σ (lk_ou V 9 k v) T else lk_ms σ V T) ∧ τ1 = τ) := by
  refine lk_met (L := [(0, lk_vr 1 0), (1, lk_vi (nI (k))), (2, lk_vi 3), (3, lk_vi (v))]) (by decide +kernel) (Nat.le_of_ble_eq_true rfl) rfl ?_
  obtain ⟨Q, hQ⟩ : ∃ Q : lk_Q, Q = fun rr σ1 τ1 => rr = some (lk_vi (if lk_rchk V 3 k v = true then V 9 k else -5)) ∧ σ1 = (if lk_rchk V 3 k v = true then lk_ms σ (lk_ou V 9 k v) T else lk_ms σ V T) ∧ τ1 = τ := ⟨_, rfl⟩
  rw [← hQ]
  have hk7 : k < 7 := by have := hV.2.2.1; omega
  refine lk_aload_n dX9_reach_0 rfl rfl ?_
  refine lk_iload_n dX9_reach_1 rfl rfl ?_
  refine lk_callV (o := 1) (as := [lk_vi (nI (k))]) (S := []) dX9_reach_2 rfl vX9_isReach rfl lX9_62 rfl rfl (Nat.le_of_ble_eq_true rfl) (tX9_isReach l X d (lk_ms σ V T) τ (k := (nI (k))) ) ?_
  refine lk_k3 ?_
  refine lk_cast (pc' := 5) (S' := [lk_vi (if (0 : Int32) ≤ (nI (k)) ∧ (nI (k)) ≤ (lk_ms σ V T) 1 0 53 then 1 else 0)]) rfl rfl rfl ?_
  refine lk_if_eqB (tgt := 38) dX9_reach_5 (by decide) (fun hh1 => absurd hh1 (fun q => q (lk_isr hV hk))) (fun hh1 => ?_)
  refine lk_iload_n dX9_reach_8 rfl rfl ?_
  refine lk_iconst (v := 0) dX9_reach_9 (by decide) ?_
  refine lk_iconst (v := 3) dX9_reach_10 (by decide) ?_
  refine lk_callS (as := [lk_vi 3, lk_vi 0, lk_vi 3]) (S := []) dX9_reach_11 rfl vX9_within rfl lX9_46 (Nat.le_of_ble_eq_true rfl) (tX9_within l X (d + 1) (lk_ms σ V T) τ (v := (3 : Int32)) (a := (0 : Int32)) (b := (3 : Int32)) ) ?_
  refine lk_k3 ?_
  refine lk_cast (pc' := 14) (S' := [lk_vi (if (0 : Int32) ≤ (3 : Int32) ∧ (3 : Int32) ≤ (3 : Int32) then 1 else 0)]) rfl rfl rfl ?_
  refine lk_if_eqB (tgt := 38) dX9_reach_14 (by decide) (fun hh2 => absurd hh2 (fun q => q (by decide))) (fun hh2 => ?_)
  refine lk_iload_n dX9_reach_17 rfl rfl ?_
  refine lk_iconst (v := 0) dX9_reach_18 (by decide) ?_
  refine lk_iload_n dX9_reach_19 rfl rfl ?_
  refine lk_iconst (v := 3) dX9_reach_20 (by decide) ?_
  refine lk_icmp_neN (a := 3) (b := 3) (tgt := 29) dX9_reach_21 (by decide) (by omega) (by omega) (fun hh3 => absurd hh3 (by decide)) (fun hh3 => ?_)
  refine lk_bipush (v := 99) dX9_reach_24 (by decide) ?_
  refine lk_goto (tgt := 32) dX9_reach_26 (by decide) ?_
  refine lk_callS (as := [lk_vi (v), lk_vi 0, lk_vi 99]) (S := []) dX9_reach_32 rfl vX9_within rfl lX9_46 (Nat.le_of_ble_eq_true rfl) (tX9_within l X (d + 1) (lk_ms σ V T) τ (v := (v)) (a := (0 : Int32)) (b := (99 : Int32)) ) ?_
  refine lk_k3 ?_
  refine lk_cast (pc' := 35) (S' := [lk_vi (if (0 : Int32) ≤ (v) ∧ (v) ≤ (99 : Int32) then 1 else 0)]) rfl rfl rfl ?_
  refine lk_if_neB (tgt := 40) dX9_reach_35 (by decide) (fun hh4 => ?_) (fun hh4 => absurd hh4 (fun q => q hv))
  refine lk_iload_n dX9_reach_40 rfl rfl ?_
  refine lk_if_ne (tgt := 48) dX9_reach_41 (by decide) (fun hh5 => ?_) (fun hh5 => absurd hh5 (by decide))
  refine lk_aload_n dX9_reach_48 rfl rfl ?_
  refine lk_getR (f := 0) dX9_reach_49 rfl fX9_9 (by decide) (by decide) ?_
  refine lk_bipush (v := 24) dX9_reach_52 (by decide) ?_
  refine lk_iload_n dX9_reach_54 rfl rfl ?_
  refine lk_iaddN (a := 24) (b := k) dX9_reach_55 ?_
  refine lk_ialdN (f := 0) (i := 24 + k) dX9_reach_56 rfl (by decide) rfl (by omega) (by decide) ?_
  refine lk_eqtop (y := (V 6 (k))) (lk_r6 (by omega) (by omega)) ?_
  refine lk_istore (L' := [(0, lk_vr 1 0), (1, lk_vi (nI (k))), (2, lk_vi 3), (3, lk_vi (v)), (4, lk_vi (V 6 (k)))]) dX9_reach_57 (by decide +kernel) rfl ?_
  refine lk_iload_n dX9_reach_59 rfl rfl ?_
  refine lk_iconst (v := 1) dX9_reach_60 (by decide) ?_
  refine lk_icmp_neN (a := 3) (b := 1) (tgt := 68) dX9_reach_61 (by decide) (by omega) (by omega) (fun hh6 => ?_) (fun hh6 => absurd hh6 (by decide))
  refine lk_aload_n dX9_reach_68 rfl rfl ?_
  refine lk_getR (f := 0) dX9_reach_69 rfl fX9_9 (by decide) (by decide) ?_
  refine lk_bipush (v := 31) dX9_reach_72 (by decide) ?_
  refine lk_iload_n dX9_reach_74 rfl rfl ?_
  refine lk_iaddN (a := 31) (b := k) dX9_reach_75 ?_
  refine lk_ialdN (f := 0) (i := 31 + k) dX9_reach_76 rfl (by decide) rfl (by omega) (by decide) ?_
  refine lk_eqtop (y := (V 7 (k))) (lk_r7 (by omega) (by omega)) ?_
  refine lk_istore (L' := [(0, lk_vr 1 0), (1, lk_vi (nI (k))), (2, lk_vi 3), (3, lk_vi (v)), (4, lk_vi (V 6 (k))), (5, lk_vi (V 7 (k)))]) dX9_reach_77 (by decide +kernel) rfl ?_
  refine lk_iload_n dX9_reach_79 rfl rfl ?_
  refine lk_iconst (v := 2) dX9_reach_80 (by decide) ?_
  refine lk_icmp_neN (a := 3) (b := 2) (tgt := 88) dX9_reach_81 (by decide) (by omega) (by omega) (fun hh7 => ?_) (fun hh7 => absurd hh7 (by decide))
  refine lk_aload_n dX9_reach_88 rfl rfl ?_
  refine lk_getR (f := 0) dX9_reach_89 rfl fX9_9 (by decide) (by decide) ?_
  refine lk_bipush (v := 38) dX9_reach_92 (by decide) ?_
  refine lk_iload_n dX9_reach_94 rfl rfl ?_
  refine lk_iaddN (a := 38) (b := k) dX9_reach_95 ?_
  refine lk_ialdN (f := 0) (i := 38 + k) dX9_reach_96 rfl (by decide) rfl (by omega) (by decide) ?_
  refine lk_eqtop (y := (V 8 (k))) (lk_r8 (by omega) (by omega)) ?_
  refine lk_istore (L' := [(0, lk_vr 1 0), (1, lk_vi (nI (k))), (2, lk_vi 3), (3, lk_vi (v)), (4, lk_vi (V 6 (k))), (5, lk_vi (V 7 (k))), (6, lk_vi (V 8 (k)))]) dX9_reach_97 (by decide +kernel) rfl ?_
  refine lk_iload dX9_reach_99 rfl ?_
  refine lk_iload dX9_reach_101 rfl ?_
  refine lk_icmp_lt (tgt := 113) dX9_reach_103 (by decide) (fun hh8 => ?_) (fun hh8 => ?_)
  ·
    refine lk_bipush (v := (-5)) dX9_reach_113 (by decide) ?_
    refine lk_iret .int dX9_reach_115 rfl rfl ?_
    rw [hQ]
    rw [lk_rchk_f (w := 3) rfl rfl rfl (by first | exact Or.inl (by assumption) | exact Or.inr (by assumption))]
    exact ⟨rfl, rfl, rfl⟩
  ·
    refine lk_iload dX9_reach_106 rfl ?_
    refine lk_iload dX9_reach_108 rfl ?_
    refine lk_icmp_le (tgt := 116) dX9_reach_110 (by decide) (fun hh9 => ?_) (fun hh9 => ?_)
    ·
      refine lk_aload_n dX9_reach_116 rfl rfl ?_
      refine lk_bipush (v := 24) dX9_reach_117 (by decide) ?_
      refine lk_bipush (v := 7) dX9_reach_119 (by decide) ?_
      refine lk_iload_n dX9_reach_121 rfl rfl ?_
      refine lk_imulN (a := 7) (b := 3) dX9_reach_122 ?_
      refine lk_iaddN (a := 24) (b := 21) dX9_reach_123 ?_
      refine lk_iload_n dX9_reach_124 rfl rfl ?_
      refine lk_iaddN (a := 45) (b := k) dX9_reach_125 ?_
      refine lk_iload_n dX9_reach_126 rfl rfl ?_
      refine lk_callV (o := 1) (as := [lk_vi (nI (45 + k)), lk_vi (v)]) (S := []) dX9_reach_127 rfl vX9_becomes rfl lX9_54 rfl rfl (Nat.le_of_ble_eq_true rfl) (tX9_becomes l X (d + 1) (lk_ms σ V T) τ (f := (45 + k)) (v := (v)) (hf := by omega)) ?_
      refine lk_k3 ?_
      refine lk_cast (pc' := 130) (S' := [lk_vi ((lk_ms σ V T) 1 0 (45 + k))]) rfl rfl rfl ?_
      refine lk_eqtop (y := (V 9 (k))) (lk_r9 (by omega) (by omega)) ?_
      refine lk_sg (σ' := (lk_ms σ (lk_ou V 9 (k) (v)) T)) (lk_w9 (by omega) (by omega)) ?_
      refine lk_iret .int dX9_reach_130 rfl rfl ?_
      rw [hQ]
      rw [lk_rchk_t (w := 3) rfl rfl rfl (by assumption) (by assumption)]
      exact ⟨rfl, rfl, rfl⟩
    ·
      refine lk_bipush (v := (-5)) dX9_reach_113 (by decide) ?_
      refine lk_iret .int dX9_reach_115 rfl rfl ?_
      rw [hQ]
      rw [lk_rchk_f (w := 3) rfl rfl rfl (by first | exact Or.inl (by assumption) | exact Or.inr (by assumption))]
      exact ⟨rfl, rfl, rfl⟩

set_option maxHeartbeats 1000000 in
set_option maxRecDepth 100000 in
theorem tX9_ofReach_3 (l : Launch) (X : lk_G) (d : Nat) (σ : lk_N) (τ : lk_T) (V T : lk_O) (n k : Nat) (hV : lk_cok V n) (hk : k ≤ n)  : lk_Mt l X mX9_ofReach (d + 2) [lk_vr 1 0, lk_vi (nI (k)), lk_vi 3] (lk_ms σ V T) τ (fun rr σ1 τ1 => rr = some (lk_vi (V 9 k)) ∧ σ1 = (lk_ms σ V T) ∧ τ1 = τ) := by
  refine lk_met (L := [(0, lk_vr 1 0), (1, lk_vi (nI (k))), (2, lk_vi 3)]) (by decide +kernel) (Nat.le_of_ble_eq_true rfl) rfl ?_
  obtain ⟨Q, hQ⟩ : ∃ Q : lk_Q, Q = fun rr σ1 τ1 => rr = some (lk_vi (V 9 k)) ∧ σ1 = (lk_ms σ V T) ∧ τ1 = τ := ⟨_, rfl⟩
  rw [← hQ]
  have hk7 : k < 7 := by have := hV.2.2.1; omega
  refine lk_aload_n dX9_ofReach_0 rfl rfl ?_
  refine lk_iload_n dX9_ofReach_1 rfl rfl ?_
  refine lk_callV (o := 1) (as := [lk_vi (nI (k))]) (S := []) dX9_ofReach_2 rfl vX9_isReach rfl lX9_62 rfl rfl (Nat.le_of_ble_eq_true rfl) (tX9_isReach l X d (lk_ms σ V T) τ (k := (nI (k))) ) ?_
  refine lk_k3 ?_
  refine lk_cast (pc' := 5) (S' := [lk_vi (if (0 : Int32) ≤ (nI (k)) ∧ (nI (k)) ≤ (lk_ms σ V T) 1 0 53 then 1 else 0)]) rfl rfl rfl ?_
  refine lk_if_eqB (tgt := 17) dX9_ofReach_5 (by decide) (fun hh1 => absurd hh1 (fun q => q (lk_isr hV hk))) (fun hh1 => ?_)
  refine lk_iload_n dX9_ofReach_8 rfl rfl ?_
  refine lk_iconst (v := 0) dX9_ofReach_9 (by decide) ?_
  refine lk_iconst (v := 4) dX9_ofReach_10 (by decide) ?_
  refine lk_callS (as := [lk_vi 3, lk_vi 0, lk_vi 4]) (S := []) dX9_ofReach_11 rfl vX9_within rfl lX9_46 (Nat.le_of_ble_eq_true rfl) (tX9_within l X (d + 1) (lk_ms σ V T) τ (v := (3 : Int32)) (a := (0 : Int32)) (b := (4 : Int32)) ) ?_
  refine lk_k3 ?_
  refine lk_cast (pc' := 14) (S' := [lk_vi (if (0 : Int32) ≤ (3 : Int32) ∧ (3 : Int32) ≤ (4 : Int32) then 1 else 0)]) rfl rfl rfl ?_
  refine lk_if_neB (tgt := 19) dX9_ofReach_14 (by decide) (fun hh2 => ?_) (fun hh2 => absurd hh2 (fun q => q (by decide)))
  refine lk_iload_n dX9_ofReach_19 rfl rfl ?_
  refine lk_iconst (v := 4) dX9_ofReach_20 (by decide) ?_
  refine lk_icmp_geN (a := 3) (b := 4) (tgt := 39) dX9_ofReach_21 (by decide) (by omega) (by omega) (fun hh3 => absurd hh3 (by decide)) (fun hh3 => ?_)
  refine lk_aload_n dX9_ofReach_24 rfl rfl ?_
  refine lk_getR (f := 0) dX9_ofReach_25 rfl fX9_9 (by decide) (by decide) ?_
  refine lk_bipush (v := 24) dX9_ofReach_28 (by decide) ?_
  refine lk_bipush (v := 7) dX9_ofReach_30 (by decide) ?_
  refine lk_iload_n dX9_ofReach_32 rfl rfl ?_
  refine lk_imulN (a := 7) (b := 3) dX9_ofReach_33 ?_
  refine lk_iaddN (a := 24) (b := 21) dX9_ofReach_34 ?_
  refine lk_iload_n dX9_ofReach_35 rfl rfl ?_
  refine lk_iaddN (a := 45) (b := k) dX9_ofReach_36 ?_
  refine lk_ialdN (f := 0) (i := 45 + k) dX9_ofReach_37 rfl (by decide) rfl (by omega) (by decide) ?_
  refine lk_eqtop (y := (V 9 (k))) (lk_r9 (by omega) (by omega)) ?_
  refine lk_iret .int dX9_ofReach_38 rfl rfl ?_
  rw [hQ]
  exact ⟨by first | rfl | (simp [*]; done) | (simp_all; done) | grind, by first | rfl | (simp [*]; done), rfl⟩

set_option maxHeartbeats 1000000 in
set_option maxRecDepth 100000 in
theorem tX9_ofReach_out (l : Launch) (X : lk_G) (d : Nat) (σ : lk_N) (τ : lk_T) (V T : lk_O) (k : Int32) (hk : ¬ (0 ≤ k ∧ k ≤ V 0 0)) (w : Int32) : lk_Mt l X mX9_ofReach (d + 2) [lk_vr 1 0, lk_vi (k), lk_vi (w)] (lk_ms σ V T) τ (fun rr σ1 τ1 => rr = some (lk_vi (-1)) ∧ σ1 = (lk_ms σ V T) ∧ τ1 = τ) := by
  refine lk_met (L := [(0, lk_vr 1 0), (1, lk_vi (k)), (2, lk_vi (w))]) (by decide +kernel) (Nat.le_of_ble_eq_true rfl) rfl ?_
  obtain ⟨Q, hQ⟩ : ∃ Q : lk_Q, Q = fun rr σ1 τ1 => rr = some (lk_vi (-1)) ∧ σ1 = (lk_ms σ V T) ∧ τ1 = τ := ⟨_, rfl⟩
  rw [← hQ]
  refine lk_aload_n dX9_ofReach_0 rfl rfl ?_
  refine lk_iload_n dX9_ofReach_1 rfl rfl ?_
  refine lk_callV (o := 1) (as := [lk_vi (k)]) (S := []) dX9_ofReach_2 rfl vX9_isReach rfl lX9_62 rfl rfl (Nat.le_of_ble_eq_true rfl) (tX9_isReach l X d (lk_ms σ V T) τ (k := (k)) ) ?_
  refine lk_k3 ?_
  refine lk_cast (pc' := 5) (S' := [lk_vi (if (0 : Int32) ≤ (k) ∧ (k) ≤ (lk_ms σ V T) 1 0 53 then 1 else 0)]) rfl rfl rfl ?_
  refine lk_if_eqB (tgt := 17) dX9_ofReach_5 (by decide) (fun hh1 => ?_) (fun hh1 => absurd hh1 (by rw [lk_r0 rfl rfl]; exact hk))
  refine lk_iconst (v := (-1)) dX9_ofReach_17 (by decide) ?_
  refine lk_iret .int dX9_ofReach_18 rfl rfl ?_
  rw [hQ]
  exact ⟨by first | rfl | (simp [*]; done) | (simp_all; done) | grind, by first | rfl | (simp [*]; done), rfl⟩

set_option maxHeartbeats 1000000 in
set_option maxRecDepth 100000 in
theorem tX9_ofReach_bad (l : Launch) (X : lk_G) (d : Nat) (σ : lk_N) (τ : lk_T) (V T : lk_O) (n k : Nat) (hV : lk_cok V n) (hk : k ≤ n) (w : Int32) (h : ¬ (0 ≤ w ∧ w ≤ 4)) : lk_Mt l X mX9_ofReach (d + 2) [lk_vr 1 0, lk_vi (nI (k)), lk_vi (w)] (lk_ms σ V T) τ (fun rr σ1 τ1 => rr = some (lk_vi (-1)) ∧ σ1 = (lk_ms σ V T) ∧ τ1 = τ) := by
  refine lk_met (L := [(0, lk_vr 1 0), (1, lk_vi (nI (k))), (2, lk_vi (w))]) (by decide +kernel) (Nat.le_of_ble_eq_true rfl) rfl ?_
  obtain ⟨Q, hQ⟩ : ∃ Q : lk_Q, Q = fun rr σ1 τ1 => rr = some (lk_vi (-1)) ∧ σ1 = (lk_ms σ V T) ∧ τ1 = τ := ⟨_, rfl⟩
  rw [← hQ]
  refine lk_aload_n dX9_ofReach_0 rfl rfl ?_
  refine lk_iload_n dX9_ofReach_1 rfl rfl ?_
  refine lk_callV (o := 1) (as := [lk_vi (nI (k))]) (S := []) dX9_ofReach_2 rfl vX9_isReach rfl lX9_62 rfl rfl (Nat.le_of_ble_eq_true rfl) (tX9_isReach l X d (lk_ms σ V T) τ (k := (nI (k))) ) ?_
  refine lk_k3 ?_
  refine lk_cast (pc' := 5) (S' := [lk_vi (if (0 : Int32) ≤ (nI (k)) ∧ (nI (k)) ≤ (lk_ms σ V T) 1 0 53 then 1 else 0)]) rfl rfl rfl ?_
  refine lk_if_eqB (tgt := 17) dX9_ofReach_5 (by decide) (fun hh1 => absurd hh1 (fun q => q (lk_isr hV hk))) (fun hh1 => ?_)
  refine lk_iload_n dX9_ofReach_8 rfl rfl ?_
  refine lk_iconst (v := 0) dX9_ofReach_9 (by decide) ?_
  refine lk_iconst (v := 4) dX9_ofReach_10 (by decide) ?_
  refine lk_callS (as := [lk_vi (w), lk_vi 0, lk_vi 4]) (S := []) dX9_ofReach_11 rfl vX9_within rfl lX9_46 (Nat.le_of_ble_eq_true rfl) (tX9_within l X (d + 1) (lk_ms σ V T) τ (v := (w)) (a := (0 : Int32)) (b := (4 : Int32)) ) ?_
  refine lk_k3 ?_
  refine lk_cast (pc' := 14) (S' := [lk_vi (if (0 : Int32) ≤ (w) ∧ (w) ≤ (4 : Int32) then 1 else 0)]) rfl rfl rfl ?_
  refine lk_if_neB (tgt := 19) dX9_ofReach_14 (by decide) (fun hh2 => absurd hh2 h) (fun hh2 => ?_)
  refine lk_iconst (v := (-1)) dX9_ofReach_17 (by decide) ?_
  refine lk_iret .int dX9_ofReach_18 rfl rfl ?_
  rw [hQ]
  exact ⟨by first | rfl | (simp [*]; done) | (simp_all; done) | grind, by first | rfl | (simp [*]; done), rfl⟩

set_option maxHeartbeats 1000000 in
set_option maxRecDepth 100000 in
theorem tX9_ofReach_4 (l : Launch) (X : lk_G) (d : Nat) (σ : lk_N) (τ : lk_T) (V T : lk_O) (n k : Nat) (hV : lk_cok V n) (hk : k ≤ n) (nf : Nat) (hn : σ 1 0 114 = nI nf) (hn12 : nf ≤ 12) : lk_Mt l X mX9_ofReach (d + 2) [lk_vr 1 0, lk_vi (nI (k)), lk_vi 4] (lk_ms σ V T) τ (fun rr σ1 τ1 => rr = some (lk_vi (nI (lk_ct (fun b => decide (σ 1 0 (102 + b) = nI k)) nf))) ∧ σ1 = (lk_ms σ V T) ∧ τ1 = τ) := by
  refine lk_met (L := [(0, lk_vr 1 0), (1, lk_vi (nI (k))), (2, lk_vi 4)]) (by decide +kernel) (Nat.le_of_ble_eq_true rfl) rfl ?_
  obtain ⟨Q, hQ⟩ : ∃ Q : lk_Q, Q = fun rr σ1 τ1 => rr = some (lk_vi (nI (lk_ct (fun b => decide (σ 1 0 (102 + b) = nI k)) nf))) ∧ σ1 = (lk_ms σ V T) ∧ τ1 = τ := ⟨_, rfl⟩
  rw [← hQ]
  have hk7 : k < 7 := by have := hV.2.2.1; omega
  refine lk_aload_n dX9_ofReach_0 rfl rfl ?_
  refine lk_iload_n dX9_ofReach_1 rfl rfl ?_
  refine lk_callV (o := 1) (as := [lk_vi (nI (k))]) (S := []) dX9_ofReach_2 rfl vX9_isReach rfl lX9_62 rfl rfl (Nat.le_of_ble_eq_true rfl) (tX9_isReach l X d (lk_ms σ V T) τ (k := (nI (k))) ) ?_
  refine lk_k3 ?_
  refine lk_cast (pc' := 5) (S' := [lk_vi (if (0 : Int32) ≤ (nI (k)) ∧ (nI (k)) ≤ (lk_ms σ V T) 1 0 53 then 1 else 0)]) rfl rfl rfl ?_
  refine lk_if_eqB (tgt := 17) dX9_ofReach_5 (by decide) (fun hh1 => absurd hh1 (fun q => q (lk_isr hV hk))) (fun hh1 => ?_)
  refine lk_iload_n dX9_ofReach_8 rfl rfl ?_
  refine lk_iconst (v := 0) dX9_ofReach_9 (by decide) ?_
  refine lk_iconst (v := 4) dX9_ofReach_10 (by decide) ?_
  refine lk_callS (as := [lk_vi 4, lk_vi 0, lk_vi 4]) (S := []) dX9_ofReach_11 rfl vX9_within rfl lX9_46 (Nat.le_of_ble_eq_true rfl) (tX9_within l X (d + 1) (lk_ms σ V T) τ (v := (4 : Int32)) (a := (0 : Int32)) (b := (4 : Int32)) ) ?_
  refine lk_k3 ?_
  refine lk_cast (pc' := 14) (S' := [lk_vi (if (0 : Int32) ≤ (4 : Int32) ∧ (4 : Int32) ≤ (4 : Int32) then 1 else 0)]) rfl rfl rfl ?_
  refine lk_if_neB (tgt := 19) dX9_ofReach_14 (by decide) (fun hh2 => ?_) (fun hh2 => absurd hh2 (fun q => q (by decide)))
  refine lk_iload_n dX9_ofReach_19 rfl rfl ?_
  refine lk_iconst (v := 4) dX9_ofReach_20 (by decide) ?_
  refine lk_icmp_geN (a := 4) (b := 4) (tgt := 39) dX9_ofReach_21 (by decide) (by omega) (by omega) (fun hh3 => ?_) (fun hh3 => absurd hh3 (by decide))
  refine lk_iconst (v := 0) dX9_ofReach_39 (by decide) ?_
  refine lk_istore_n (L' := [(0, lk_vr 1 0), (1, lk_vi (nI (k))), (2, lk_vi 4), (3, lk_vi 0)]) dX9_ofReach_40 rfl (by decide +kernel) rfl ?_
  refine lk_iconst (v := 0) dX9_ofReach_41 (by decide) ?_
  refine lk_istore (L' := [(0, lk_vr 1 0), (1, lk_vi (nI (k))), (2, lk_vi 4), (3, lk_vi 0), (4, lk_vi 0)]) dX9_ofReach_42 (by decide +kernel) rfl ?_
  have LP44 : ∀ (fu : Nat) (b e : Nat), b ≤ nf → e = lk_ct (fun b => decide (σ 1 0 (102 + b) = nI k)) b → nf - b < fu → lk_W l X mX9_ofReach (d + 2) 44 [(0, lk_vr 1 0), (1, lk_vi (nI (k))), (2, lk_vi 4), (3, lk_vi (nI (e))), (4, lk_vi (nI (b)))] [] (lk_ms σ V T) τ Q := by
    intro fu
    induction fu with
    | zero => intro b e hb he hfu; exact absurd hfu (by omega)
    | succ fu ih =>
      intro b e hb he hfu
      refine lk_iload dX9_ofReach_44 rfl ?_
      refine lk_aload_n dX9_ofReach_46 rfl rfl ?_
      refine lk_getR (f := 0) dX9_ofReach_47 rfl fX9_9 (by decide) (by decide) ?_
      refine lk_bipush (v := 114) dX9_ofReach_50 (by decide) ?_
      refine lk_ialdN (f := 0) (i := 114) dX9_ofReach_52 rfl (by decide) rfl (by omega) (by decide) ?_
      refine lk_eqtop (y := (nI (nf))) ((lk_rB (by decide)).trans hn) ?_
      refine lk_icmp_geN (a := b) (b := nf) (tgt := 79) dX9_ofReach_53 (by decide) (by omega) (by omega) (fun hh4 => ?_) (fun hh4 => ?_)
      ·
        refine lk_iload_n dX9_ofReach_79 rfl rfl ?_
        refine lk_iret .int dX9_ofReach_80 rfl rfl ?_
        rw [hQ]
        have : b = nf := by omega
        subst this
        exact ⟨by rw [he], rfl, rfl⟩
      ·
        refine lk_aload_n dX9_ofReach_56 rfl rfl ?_
        refine lk_getR (f := 0) dX9_ofReach_57 rfl fX9_9 (by decide) (by decide) ?_
        refine lk_bipush (v := 102) dX9_ofReach_60 (by decide) ?_
        refine lk_iload dX9_ofReach_62 rfl ?_
        refine lk_iaddN (a := 102) (b := b) dX9_ofReach_64 ?_
        refine lk_ialdN (f := 0) (i := 102 + b) dX9_ofReach_65 rfl (by decide) rfl (by omega) (by decide) ?_
        refine lk_eqtop (y := (σ 1 0 (102 + b))) ((lk_rB (by omega)).trans rfl) ?_
        refine lk_iload_n dX9_ofReach_66 rfl rfl ?_
        refine lk_icmp_ne (tgt := 73) dX9_ofReach_67 (by decide) (fun hh5 => ?_) (fun hh5 => ?_)
        ·
          refine lk_iincN (a := b) (m := 1) (L' := [(0, lk_vr 1 0), (1, lk_vi (nI (k))), (2, lk_vi 4), (3, lk_vi (nI (e))), (4, lk_vi (nI (b + 1)))]) dX9_ofReach_73 rfl rfl (by decide +kernel) rfl ?_
          refine lk_goto (tgt := 44) dX9_ofReach_76 (by decide) ?_
          refine ih (b + 1) _ (by omega) ?_ (by omega)
          simp only [lk_ct]
          simp [*]
        ·
          refine lk_iincN (a := e) (m := 1) (L' := [(0, lk_vr 1 0), (1, lk_vi (nI (k))), (2, lk_vi 4), (3, lk_vi (nI (e + 1))), (4, lk_vi (nI (b)))]) dX9_ofReach_70 rfl rfl (by decide +kernel) rfl ?_
          refine lk_iincN (a := b) (m := 1) (L' := [(0, lk_vr 1 0), (1, lk_vi (nI (k))), (2, lk_vi 4), (3, lk_vi (nI (e + 1))), (4, lk_vi (nI (b + 1)))]) dX9_ofReach_73 rfl rfl (by decide +kernel) rfl ?_
          refine lk_goto (tgt := 44) dX9_ofReach_76 (by decide) ?_
          refine ih (b + 1) _ (by omega) ?_ (by omega)
          simp only [lk_ct]
          simp [*]
  exact LP44 (nf + 1) 0 0 (by omega) rfl (by omega)

set_option maxHeartbeats 1000000 in
set_option maxRecDepth 100000 in
theorem tX9_feeds_bad (l : Launch) (X : lk_G) (d : Nat) (σ : lk_N) (τ : lk_T) (v : Int32) (h : ¬ (0 ≤ v ∧ v ≤ 999)) : lk_Mt l X mX9_feeds (d + 1) [lk_vr 1 0, lk_vi (v)] σ τ (fun rr σ1 τ1 => rr = some (lk_vi (-1)) ∧ σ1 = σ ∧ τ1 = τ) := by
  refine lk_met (L := [(0, lk_vr 1 0), (1, lk_vi (v))]) (by decide +kernel) (Nat.le_of_ble_eq_true rfl) rfl ?_
  obtain ⟨Q, hQ⟩ : ∃ Q : lk_Q, Q = fun rr σ1 τ1 => rr = some (lk_vi (-1)) ∧ σ1 = σ ∧ τ1 = τ := ⟨_, rfl⟩
  rw [← hQ]
  refine lk_iload_n dX9_feeds_0 rfl rfl ?_
  refine lk_iconst (v := 0) dX9_feeds_1 (by decide) ?_
  refine lk_sipush (v := 999) dX9_feeds_2 (by decide) ?_
  refine lk_callS (as := [lk_vi (v), lk_vi 0, lk_vi 999]) (S := []) dX9_feeds_5 rfl vX9_within rfl lX9_46 (Nat.le_of_ble_eq_true rfl) (tX9_within l X d σ τ (v := (v)) (a := (0 : Int32)) (b := (999 : Int32)) ) ?_
  refine lk_k3 ?_
  refine lk_cast (pc' := 8) (S' := [lk_vi (if (0 : Int32) ≤ (v) ∧ (v) ≤ (999 : Int32) then 1 else 0)]) rfl rfl rfl ?_
  refine lk_if_eqB (tgt := 21) dX9_feeds_8 (by decide) (fun hh1 => ?_) (fun hh1 => absurd hh1 h)
  refine lk_iconst (v := (-1)) dX9_feeds_21 (by decide) ?_
  refine lk_iret .int dX9_feeds_22 rfl rfl ?_
  rw [hQ]
  exact ⟨by first | rfl | (simp [*]; done) | (simp_all; done) | grind, by first | rfl | (simp [*]; done), rfl⟩

set_option maxHeartbeats 1000000 in
set_option maxRecDepth 100000 in
theorem tX9_feed_bad (l : Launch) (X : lk_G) (d : Nat) (σ : lk_N) (τ : lk_T) (v : Int32) (h : ¬ (32 ≤ v ∧ v ≤ 126)) : lk_Mt l X mX9_feed (d + 1) [lk_vr 1 0, lk_vi (v)] σ τ (fun rr σ1 τ1 => rr = some (lk_vi (-1)) ∧ σ1 = σ ∧ τ1 = τ) := by
  refine lk_met (L := [(0, lk_vr 1 0), (1, lk_vi (v))]) (by decide +kernel) (Nat.le_of_ble_eq_true rfl) rfl ?_
  obtain ⟨Q, hQ⟩ : ∃ Q : lk_Q, Q = fun rr σ1 τ1 => rr = some (lk_vi (-1)) ∧ σ1 = σ ∧ τ1 = τ := ⟨_, rfl⟩
  rw [← hQ]
  refine lk_iload_n dX9_feed_0 rfl rfl ?_
  refine lk_bipush (v := 32) dX9_feed_1 (by decide) ?_
  refine lk_bipush (v := 126) dX9_feed_3 (by decide) ?_
  refine lk_callS (as := [lk_vi (v), lk_vi 32, lk_vi 126]) (S := []) dX9_feed_5 rfl vX9_within rfl lX9_46 (Nat.le_of_ble_eq_true rfl) (tX9_within l X d σ τ (v := (v)) (a := (32 : Int32)) (b := (126 : Int32)) ) ?_
  refine lk_k3 ?_
  refine lk_cast (pc' := 8) (S' := [lk_vi (if (32 : Int32) ≤ (v) ∧ (v) ≤ (126 : Int32) then 1 else 0)]) rfl rfl rfl ?_
  refine lk_if_neB (tgt := 13) dX9_feed_8 (by decide) (fun hh1 => absurd hh1 h) (fun hh1 => ?_)
  refine lk_iconst (v := (-1)) dX9_feed_11 (by decide) ?_
  refine lk_iret .int dX9_feed_12 rfl rfl ?_
  rw [hQ]
  exact ⟨by first | rfl | (simp [*]; done) | (simp_all; done) | grind, by first | rfl | (simp [*]; done), rfl⟩

set_option maxHeartbeats 1000000 in
set_option maxRecDepth 100000 in
theorem tX9_feed_full (l : Launch) (X : lk_G) (d : Nat) (σ : lk_N) (τ : lk_T) (v : Int32) (h : 32 ≤ v ∧ v ≤ 126) (hn : σ 1 12 0 = nI 60) : lk_Mt l X mX9_feed (d + 1) [lk_vr 1 0, lk_vi (v)] σ τ (fun rr σ1 τ1 => rr = some (lk_vi (-3)) ∧ σ1 = σ ∧ τ1 = τ) := by
  refine lk_met (L := [(0, lk_vr 1 0), (1, lk_vi (v))]) (by decide +kernel) (Nat.le_of_ble_eq_true rfl) rfl ?_
  obtain ⟨Q, hQ⟩ : ∃ Q : lk_Q, Q = fun rr σ1 τ1 => rr = some (lk_vi (-3)) ∧ σ1 = σ ∧ τ1 = τ := ⟨_, rfl⟩
  rw [← hQ]
  refine lk_iload_n dX9_feed_0 rfl rfl ?_
  refine lk_bipush (v := 32) dX9_feed_1 (by decide) ?_
  refine lk_bipush (v := 126) dX9_feed_3 (by decide) ?_
  refine lk_callS (as := [lk_vi (v), lk_vi 32, lk_vi 126]) (S := []) dX9_feed_5 rfl vX9_within rfl lX9_46 (Nat.le_of_ble_eq_true rfl) (tX9_within l X d σ τ (v := (v)) (a := (32 : Int32)) (b := (126 : Int32)) ) ?_
  refine lk_k3 ?_
  refine lk_cast (pc' := 8) (S' := [lk_vi (if (32 : Int32) ≤ (v) ∧ (v) ≤ (126 : Int32) then 1 else 0)]) rfl rfl rfl ?_
  refine lk_if_neB (tgt := 13) dX9_feed_8 (by decide) (fun hh1 => ?_) (fun hh1 => absurd hh1 (fun q => q h))
  refine lk_aload_n dX9_feed_13 rfl rfl ?_
  refine lk_getI (f := 12) dX9_feed_14 rfl fX9_65 (by decide) (by decide) ?_
  refine lk_bipush (v := 60) dX9_feed_17 (by decide) ?_
  refine lk_icmp_ne (tgt := 25) dX9_feed_19 (by decide) (fun hh2 => absurd hh2 (by rw [hn]; decide)) (fun hh2 => ?_)
  refine lk_bipush (v := (-3)) dX9_feed_22 (by decide) ?_
  refine lk_iret .int dX9_feed_24 rfl rfl ?_
  rw [hQ]
  exact ⟨by first | rfl | (simp [*]; done) | (simp_all; done) | grind, by first | rfl | (simp [*]; done), rfl⟩

set_option maxHeartbeats 1000000 in
set_option maxRecDepth 100000 in
theorem tX9_feed_ok (l : Launch) (X : lk_G) (d : Nat) (σ : lk_N) (τ : lk_T) (v : Int32) (h : 32 ≤ v ∧ v ≤ 126) (nt : Nat) (hn : σ 1 12 0 = nI nt) (h60 : nt < 60) : lk_Mt l X mX9_feed (d + 1) [lk_vr 1 0, lk_vi (v)] σ τ (fun rr σ1 τ1 => rr = some (lk_vi (nI (nt + 1))) ∧ σ1 = lk_up (lk_up σ 1 12 0 (nI (nt + 1))) 1 13 nt v ∧ τ1 = τ) := by
  refine lk_met (L := [(0, lk_vr 1 0), (1, lk_vi (v))]) (by decide +kernel) (Nat.le_of_ble_eq_true rfl) rfl ?_
  obtain ⟨Q, hQ⟩ : ∃ Q : lk_Q, Q = fun rr σ1 τ1 => rr = some (lk_vi (nI (nt + 1))) ∧ σ1 = lk_up (lk_up σ 1 12 0 (nI (nt + 1))) 1 13 nt v ∧ τ1 = τ := ⟨_, rfl⟩
  rw [← hQ]
  refine lk_iload_n dX9_feed_0 rfl rfl ?_
  refine lk_bipush (v := 32) dX9_feed_1 (by decide) ?_
  refine lk_bipush (v := 126) dX9_feed_3 (by decide) ?_
  refine lk_callS (as := [lk_vi (v), lk_vi 32, lk_vi 126]) (S := []) dX9_feed_5 rfl vX9_within rfl lX9_46 (Nat.le_of_ble_eq_true rfl) (tX9_within l X d σ τ (v := (v)) (a := (32 : Int32)) (b := (126 : Int32)) ) ?_
  refine lk_k3 ?_
  refine lk_cast (pc' := 8) (S' := [lk_vi (if (32 : Int32) ≤ (v) ∧ (v) ≤ (126 : Int32) then 1 else 0)]) rfl rfl rfl ?_
  refine lk_if_neB (tgt := 13) dX9_feed_8 (by decide) (fun hh1 => ?_) (fun hh1 => absurd hh1 (fun q => q h))
  refine lk_aload_n dX9_feed_13 rfl rfl ?_
  refine lk_getIv (v := (nI (nt))) (f := 12) dX9_feed_14 rfl fX9_65 (by decide) (by decide) hn ?_
  refine lk_bipush (v := 60) dX9_feed_17 (by decide) ?_
  refine lk_icmp_neN (a := nt) (b := 60) (tgt := 25) dX9_feed_19 (by decide) (by omega) (by omega) (fun hh2 => ?_) (fun hh2 => absurd hh2 (by omega))
  refine lk_aload_n dX9_feed_25 rfl rfl ?_
  refine lk_getR (f := 13) dX9_feed_26 rfl fX9_24 (by decide) (by decide) ?_
  refine lk_aload_n dX9_feed_29 rfl rfl ?_
  refine lk_dup dX9_feed_30 rfl ?_
  refine lk_getIv (v := (nI (nt))) (f := 12) dX9_feed_31 rfl fX9_65 (by decide) (by decide) hn ?_
  refine lk_dup_x1 dX9_feed_34 rfl rfl ?_
  refine lk_iconst (v := 1) dX9_feed_35 (by decide) ?_
  refine lk_iaddN (a := nt) (b := 1) dX9_feed_36 ?_
  refine lk_putI (f := 12) dX9_feed_37 rfl fX9_65 (by decide) (by decide) ?_
  refine lk_iload_n dX9_feed_40 rfl rfl ?_
  refine lk_iastN (f := 13) (i := nt) (v := (v)) dX9_feed_41 rfl (by decide) rfl (by omega) (by decide) ?_
  refine lk_aload_n dX9_feed_42 rfl rfl ?_
  refine lk_getIv (v := (nI (nt + 1))) (f := 12) dX9_feed_43 rfl fX9_65 (by decide) (by decide) (by simp [lk_up]) ?_
  refine lk_iret .int dX9_feed_46 rfl rfl ?_
  rw [hQ]
  exact ⟨by first | rfl | (simp [*]; done) | (simp_all; done) | grind, by first | rfl | (simp [*]; done), rfl⟩

set_option maxHeartbeats 1000000 in
set_option maxRecDepth 100000 in
theorem tX9_why_bad (l : Launch) (X : lk_G) (d : Nat) (σ : lk_N) (τ : lk_T) (i : Int32) (h : ¬ (0 ≤ i ∧ i ≤ 3)) : lk_Mt l X mX9_why (d + 1) [lk_vr 1 0, lk_vi (i)] σ τ (fun rr σ1 τ1 => rr = some (lk_vi (-1)) ∧ σ1 = σ ∧ τ1 = τ) := by
  refine lk_met (L := [(0, lk_vr 1 0), (1, lk_vi (i))]) (by decide +kernel) (Nat.le_of_ble_eq_true rfl) rfl ?_
  obtain ⟨Q, hQ⟩ : ∃ Q : lk_Q, Q = fun rr σ1 τ1 => rr = some (lk_vi (-1)) ∧ σ1 = σ ∧ τ1 = τ := ⟨_, rfl⟩
  rw [← hQ]
  refine lk_iload_n dX9_why_0 rfl rfl ?_
  refine lk_iconst (v := 0) dX9_why_1 (by decide) ?_
  refine lk_iconst (v := 3) dX9_why_2 (by decide) ?_
  refine lk_callS (as := [lk_vi (i), lk_vi 0, lk_vi 3]) (S := []) dX9_why_3 rfl vX9_within rfl lX9_46 (Nat.le_of_ble_eq_true rfl) (tX9_within l X d σ τ (v := (i)) (a := (0 : Int32)) (b := (3 : Int32)) ) ?_
  refine lk_k3 ?_
  refine lk_cast (pc' := 6) (S' := [lk_vi (if (0 : Int32) ≤ (i) ∧ (i) ≤ (3 : Int32) then 1 else 0)]) rfl rfl rfl ?_
  refine lk_if_neB (tgt := 11) dX9_why_6 (by decide) (fun hh1 => absurd hh1 h) (fun hh1 => ?_)
  refine lk_iconst (v := (-1)) dX9_why_9 (by decide) ?_
  refine lk_iret .int dX9_why_10 rfl rfl ?_
  rw [hQ]
  exact ⟨by first | rfl | (simp [*]; done) | (simp_all; done) | grind, by first | rfl | (simp [*]; done), rfl⟩

set_option maxHeartbeats 1000000 in
set_option maxRecDepth 100000 in
theorem tX9_why_0 (l : Launch) (X : lk_G) (d : Nat) (σ : lk_N) (τ : lk_T)  : lk_Mt l X mX9_why (d + 1) [lk_vr 1 0, lk_vi 0] σ τ (fun rr σ1 τ1 => rr = some (lk_vi (if σ 1 10 0 = 0 then -2 else σ 1 11 0)) ∧ σ1 = σ ∧ τ1 = τ) := by
  refine lk_met (L := [(0, lk_vr 1 0), (1, lk_vi 0)]) (by decide +kernel) (Nat.le_of_ble_eq_true rfl) rfl ?_
  obtain ⟨Q, hQ⟩ : ∃ Q : lk_Q, Q = fun rr σ1 τ1 => rr = some (lk_vi (if σ 1 10 0 = 0 then -2 else σ 1 11 0)) ∧ σ1 = σ ∧ τ1 = τ := ⟨_, rfl⟩
  rw [← hQ]
  refine lk_iload_n dX9_why_0 rfl rfl ?_
  refine lk_iconst (v := 0) dX9_why_1 (by decide) ?_
  refine lk_iconst (v := 3) dX9_why_2 (by decide) ?_
  refine lk_callS (as := [lk_vi 0, lk_vi 0, lk_vi 3]) (S := []) dX9_why_3 rfl vX9_within rfl lX9_46 (Nat.le_of_ble_eq_true rfl) (tX9_within l X d σ τ (v := (0 : Int32)) (a := (0 : Int32)) (b := (3 : Int32)) ) ?_
  refine lk_k3 ?_
  refine lk_cast (pc' := 6) (S' := [lk_vi (if (0 : Int32) ≤ (0 : Int32) ∧ (0 : Int32) ≤ (3 : Int32) then 1 else 0)]) rfl rfl rfl ?_
  refine lk_if_neB (tgt := 11) dX9_why_6 (by decide) (fun hh1 => ?_) (fun hh1 => absurd hh1 (fun q => q (by decide)))
  refine lk_aload_n dX9_why_11 rfl rfl ?_
  refine lk_getI (f := 10) dX9_why_12 rfl fX9_144 (by decide) (by decide) ?_
  refine lk_if_eq (tgt := 27) dX9_why_15 (by decide) (fun hh2 => ?_) (fun hh2 => ?_)
  ·
    refine lk_bipush (v := (-2)) dX9_why_27 (by decide) ?_
    refine lk_iret .int dX9_why_29 rfl rfl ?_
    rw [hQ]
    exact ⟨by first | rfl | (simp [*]; done) | (simp_all; done) | grind, by first | rfl | (simp [*]; done), rfl⟩
  ·
    refine lk_aload_n dX9_why_18 rfl rfl ?_
    refine lk_getR (f := 11) dX9_why_19 rfl fX9_21 (by decide) (by decide) ?_
    refine lk_iload_n dX9_why_22 rfl rfl ?_
    refine lk_ialdN (f := 11) (i := 0) dX9_why_23 rfl (by decide) rfl (by omega) (by decide) ?_
    refine lk_goto (tgt := 29) dX9_why_24 (by decide) ?_
    refine lk_iret .int dX9_why_29 rfl rfl ?_
    rw [hQ]
    exact ⟨by first | rfl | (simp [*]; done) | (simp_all; done) | grind, by first | rfl | (simp [*]; done), rfl⟩

set_option maxHeartbeats 1000000 in
set_option maxRecDepth 100000 in
theorem tX9_why_1 (l : Launch) (X : lk_G) (d : Nat) (σ : lk_N) (τ : lk_T)  : lk_Mt l X mX9_why (d + 1) [lk_vr 1 0, lk_vi 1] σ τ (fun rr σ1 τ1 => rr = some (lk_vi (if σ 1 10 0 = 0 then -2 else σ 1 11 1)) ∧ σ1 = σ ∧ τ1 = τ) := by
  refine lk_met (L := [(0, lk_vr 1 0), (1, lk_vi 1)]) (by decide +kernel) (Nat.le_of_ble_eq_true rfl) rfl ?_
  obtain ⟨Q, hQ⟩ : ∃ Q : lk_Q, Q = fun rr σ1 τ1 => rr = some (lk_vi (if σ 1 10 0 = 0 then -2 else σ 1 11 1)) ∧ σ1 = σ ∧ τ1 = τ := ⟨_, rfl⟩
  rw [← hQ]
  refine lk_iload_n dX9_why_0 rfl rfl ?_
  refine lk_iconst (v := 0) dX9_why_1 (by decide) ?_
  refine lk_iconst (v := 3) dX9_why_2 (by decide) ?_
  refine lk_callS (as := [lk_vi 1, lk_vi 0, lk_vi 3]) (S := []) dX9_why_3 rfl vX9_within rfl lX9_46 (Nat.le_of_ble_eq_true rfl) (tX9_within l X d σ τ (v := (1 : Int32)) (a := (0 : Int32)) (b := (3 : Int32)) ) ?_
  refine lk_k3 ?_
  refine lk_cast (pc' := 6) (S' := [lk_vi (if (0 : Int32) ≤ (1 : Int32) ∧ (1 : Int32) ≤ (3 : Int32) then 1 else 0)]) rfl rfl rfl ?_
  refine lk_if_neB (tgt := 11) dX9_why_6 (by decide) (fun hh1 => ?_) (fun hh1 => absurd hh1 (fun q => q (by decide)))
  refine lk_aload_n dX9_why_11 rfl rfl ?_
  refine lk_getI (f := 10) dX9_why_12 rfl fX9_144 (by decide) (by decide) ?_
  refine lk_if_eq (tgt := 27) dX9_why_15 (by decide) (fun hh2 => ?_) (fun hh2 => ?_)
  ·
    refine lk_bipush (v := (-2)) dX9_why_27 (by decide) ?_
    refine lk_iret .int dX9_why_29 rfl rfl ?_
    rw [hQ]
    exact ⟨by first | rfl | (simp [*]; done) | (simp_all; done) | grind, by first | rfl | (simp [*]; done), rfl⟩
  ·
    refine lk_aload_n dX9_why_18 rfl rfl ?_
    refine lk_getR (f := 11) dX9_why_19 rfl fX9_21 (by decide) (by decide) ?_
    refine lk_iload_n dX9_why_22 rfl rfl ?_
    refine lk_ialdN (f := 11) (i := 1) dX9_why_23 rfl (by decide) rfl (by omega) (by decide) ?_
    refine lk_goto (tgt := 29) dX9_why_24 (by decide) ?_
    refine lk_iret .int dX9_why_29 rfl rfl ?_
    rw [hQ]
    exact ⟨by first | rfl | (simp [*]; done) | (simp_all; done) | grind, by first | rfl | (simp [*]; done), rfl⟩

set_option maxHeartbeats 1000000 in
set_option maxRecDepth 100000 in
theorem tX9_why_2 (l : Launch) (X : lk_G) (d : Nat) (σ : lk_N) (τ : lk_T)  : lk_Mt l X mX9_why (d + 1) [lk_vr 1 0, lk_vi 2] σ τ (fun rr σ1 τ1 => rr = some (lk_vi (if σ 1 10 0 = 0 then -2 else σ 1 11 2)) ∧ σ1 = σ ∧ τ1 = τ) := by
  refine lk_met (L := [(0, lk_vr 1 0), (1, lk_vi 2)]) (by decide +kernel) (Nat.le_of_ble_eq_true rfl) rfl ?_
  obtain ⟨Q, hQ⟩ : ∃ Q : lk_Q, Q = fun rr σ1 τ1 => rr = some (lk_vi (if σ 1 10 0 = 0 then -2 else σ 1 11 2)) ∧ σ1 = σ ∧ τ1 = τ := ⟨_, rfl⟩
  rw [← hQ]
  refine lk_iload_n dX9_why_0 rfl rfl ?_
  refine lk_iconst (v := 0) dX9_why_1 (by decide) ?_
  refine lk_iconst (v := 3) dX9_why_2 (by decide) ?_
  refine lk_callS (as := [lk_vi 2, lk_vi 0, lk_vi 3]) (S := []) dX9_why_3 rfl vX9_within rfl lX9_46 (Nat.le_of_ble_eq_true rfl) (tX9_within l X d σ τ (v := (2 : Int32)) (a := (0 : Int32)) (b := (3 : Int32)) ) ?_
  refine lk_k3 ?_
  refine lk_cast (pc' := 6) (S' := [lk_vi (if (0 : Int32) ≤ (2 : Int32) ∧ (2 : Int32) ≤ (3 : Int32) then 1 else 0)]) rfl rfl rfl ?_
  refine lk_if_neB (tgt := 11) dX9_why_6 (by decide) (fun hh1 => ?_) (fun hh1 => absurd hh1 (fun q => q (by decide)))
  refine lk_aload_n dX9_why_11 rfl rfl ?_
  refine lk_getI (f := 10) dX9_why_12 rfl fX9_144 (by decide) (by decide) ?_
  refine lk_if_eq (tgt := 27) dX9_why_15 (by decide) (fun hh2 => ?_) (fun hh2 => ?_)
  ·
    refine lk_bipush (v := (-2)) dX9_why_27 (by decide) ?_
    refine lk_iret .int dX9_why_29 rfl rfl ?_
    rw [hQ]
    exact ⟨by first | rfl | (simp [*]; done) | (simp_all; done) | grind, by first | rfl | (simp [*]; done), rfl⟩
  ·
    refine lk_aload_n dX9_why_18 rfl rfl ?_
    refine lk_getR (f := 11) dX9_why_19 rfl fX9_21 (by decide) (by decide) ?_
    refine lk_iload_n dX9_why_22 rfl rfl ?_
    refine lk_ialdN (f := 11) (i := 2) dX9_why_23 rfl (by decide) rfl (by omega) (by decide) ?_
    refine lk_goto (tgt := 29) dX9_why_24 (by decide) ?_
    refine lk_iret .int dX9_why_29 rfl rfl ?_
    rw [hQ]
    exact ⟨by first | rfl | (simp [*]; done) | (simp_all; done) | grind, by first | rfl | (simp [*]; done), rfl⟩

set_option maxHeartbeats 1000000 in
set_option maxRecDepth 100000 in
theorem tX9_why_3 (l : Launch) (X : lk_G) (d : Nat) (σ : lk_N) (τ : lk_T)  : lk_Mt l X mX9_why (d + 1) [lk_vr 1 0, lk_vi 3] σ τ (fun rr σ1 τ1 => rr = some (lk_vi (if σ 1 10 0 = 0 then -2 else σ 1 11 3)) ∧ σ1 = σ ∧ τ1 = τ) := by
  refine lk_met (L := [(0, lk_vr 1 0), (1, lk_vi 3)]) (by decide +kernel) (Nat.le_of_ble_eq_true rfl) rfl ?_
  obtain ⟨Q, hQ⟩ : ∃ Q : lk_Q, Q = fun rr σ1 τ1 => rr = some (lk_vi (if σ 1 10 0 = 0 then -2 else σ 1 11 3)) ∧ σ1 = σ ∧ τ1 = τ := ⟨_, rfl⟩
  rw [← hQ]
  refine lk_iload_n dX9_why_0 rfl rfl ?_
  refine lk_iconst (v := 0) dX9_why_1 (by decide) ?_
  refine lk_iconst (v := 3) dX9_why_2 (by decide) ?_
  refine lk_callS (as := [lk_vi 3, lk_vi 0, lk_vi 3]) (S := []) dX9_why_3 rfl vX9_within rfl lX9_46 (Nat.le_of_ble_eq_true rfl) (tX9_within l X d σ τ (v := (3 : Int32)) (a := (0 : Int32)) (b := (3 : Int32)) ) ?_
  refine lk_k3 ?_
  refine lk_cast (pc' := 6) (S' := [lk_vi (if (0 : Int32) ≤ (3 : Int32) ∧ (3 : Int32) ≤ (3 : Int32) then 1 else 0)]) rfl rfl rfl ?_
  refine lk_if_neB (tgt := 11) dX9_why_6 (by decide) (fun hh1 => ?_) (fun hh1 => absurd hh1 (fun q => q (by decide)))
  refine lk_aload_n dX9_why_11 rfl rfl ?_
  refine lk_getI (f := 10) dX9_why_12 rfl fX9_144 (by decide) (by decide) ?_
  refine lk_if_eq (tgt := 27) dX9_why_15 (by decide) (fun hh2 => ?_) (fun hh2 => ?_)
  ·
    refine lk_bipush (v := (-2)) dX9_why_27 (by decide) ?_
    refine lk_iret .int dX9_why_29 rfl rfl ?_
    rw [hQ]
    exact ⟨by first | rfl | (simp [*]; done) | (simp_all; done) | grind, by first | rfl | (simp [*]; done), rfl⟩
  ·
    refine lk_aload_n dX9_why_18 rfl rfl ?_
    refine lk_getR (f := 11) dX9_why_19 rfl fX9_21 (by decide) (by decide) ?_
    refine lk_iload_n dX9_why_22 rfl rfl ?_
    refine lk_ialdN (f := 11) (i := 3) dX9_why_23 rfl (by decide) rfl (by omega) (by decide) ?_
    refine lk_goto (tgt := 29) dX9_why_24 (by decide) ?_
    refine lk_iret .int dX9_why_29 rfl rfl ?_
    rw [hQ]
    exact ⟨by first | rfl | (simp [*]; done) | (simp_all; done) | grind, by first | rfl | (simp [*]; done), rfl⟩

set_option maxHeartbeats 1000000 in
set_option maxRecDepth 100000 in
theorem tX9_water (l : Launch) (X : lk_G) (d : Nat) (σ : lk_N) (τ : lk_T) (V T : lk_O) (n : Nat) (hV : lk_cok V n)  : lk_Mt l X mX9_water d [lk_vr 1 0] (lk_ms σ V T) τ (fun rr σ1 τ1 => rr = some (lk_vi (lk_sm (V 6) (n + 1) + lk_sm (lk_wat V) n)) ∧ σ1 = (lk_ms σ V T) ∧ τ1 = τ) := by
  refine lk_met (L := [(0, lk_vr 1 0)]) (by decide +kernel) (Nat.le_of_ble_eq_true rfl) rfl ?_
  obtain ⟨Q, hQ⟩ : ∃ Q : lk_Q, Q = fun rr σ1 τ1 => rr = some (lk_vi (lk_sm (V 6) (n + 1) + lk_sm (lk_wat V) n)) ∧ σ1 = (lk_ms σ V T) ∧ τ1 = τ := ⟨_, rfl⟩
  rw [← hQ]
  have hn6 := hV.2.2.1
  refine lk_iconst (v := 0) dX9_water_0 (by decide) ?_
  refine lk_istore_n (L' := [(0, lk_vr 1 0), (1, lk_vi 0)]) dX9_water_1 rfl (by decide +kernel) rfl ?_
  refine lk_iconst (v := 0) dX9_water_2 (by decide) ?_
  refine lk_istore_n (L' := [(0, lk_vr 1 0), (1, lk_vi 0), (2, lk_vi 0)]) dX9_water_3 rfl (by decide +kernel) rfl ?_
  have LP4 : ∀ (fu : Nat) (i : Nat), i ≤ n + 1 → n + 1 - i < fu → lk_W l X mX9_water d 4 [(0, lk_vr 1 0), (1, lk_vi (lk_sm (V 6) i)), (2, lk_vi (nI (i)))] [] (lk_ms σ V T) τ Q := by
    intro fu
    induction fu with
    | zero => intro i hi hfu; exact absurd hfu (by omega)
    | succ fu ih =>
      intro i hi hfu
      refine lk_iload_n dX9_water_4 rfl rfl ?_
      refine lk_aload_n dX9_water_5 rfl rfl ?_
      refine lk_getR (f := 0) dX9_water_6 rfl fX9_9 (by decide) (by decide) ?_
      refine lk_bipush (v := 53) dX9_water_9 (by decide) ?_
      refine lk_ialdN (f := 0) (i := 53) dX9_water_11 rfl (by decide) rfl (by omega) (by decide) ?_
      refine lk_eqtop (y := (nI (n))) ((lk_r0 rfl rfl).trans hV.1) ?_
      refine lk_icmp_gtN (a := i) (b := n) (tgt := 33) dX9_water_12 (by decide) (by omega) (by omega) (fun hh1 => ?_) (fun hh1 => ?_)
      ·
        refine lk_iconst (v := 0) dX9_water_33 (by decide) ?_
        refine lk_istore_n (L' := [(0, lk_vr 1 0), (1, lk_vi (lk_sm (V 6) i)), (2, lk_vi 0)]) dX9_water_34 rfl (by decide +kernel) rfl ?_
        have LP35 : ∀ (fu : Nat) (k : Nat) (y : Int32), k ≤ n → y = lk_sm (V 6) (n + 1) + lk_sm (lk_wat V) k → n - k < fu → lk_W l X mX9_water d 35 [(0, lk_vr 1 0), (1, lk_vi (y)), (2, lk_vi (nI (k)))] [] (lk_ms σ V T) τ Q := by
          intro fu
          induction fu with
          | zero => intro k y hk hy hfu; exact absurd hfu (by omega)
          | succ fu ih =>
            intro k y hk hy hfu
            refine lk_iload_n dX9_water_35 rfl rfl ?_
            refine lk_aload_n dX9_water_36 rfl rfl ?_
            refine lk_getR (f := 0) dX9_water_37 rfl fX9_9 (by decide) (by decide) ?_
            refine lk_bipush (v := 53) dX9_water_40 (by decide) ?_
            refine lk_ialdN (f := 0) (i := 53) dX9_water_42 rfl (by decide) rfl (by omega) (by decide) ?_
            refine lk_eqtop (y := (nI (n))) ((lk_r0 rfl rfl).trans hV.1) ?_
            refine lk_icmp_geN (a := k) (b := n) (tgt := 83) dX9_water_43 (by decide) (by omega) (by omega) (fun hh2 => ?_) (fun hh2 => ?_)
            ·
              refine lk_iload_n dX9_water_83 rfl rfl ?_
              refine lk_iret .int dX9_water_84 rfl rfl ?_
              rw [hQ]
              have : k = n := by omega
              subst this
              exact ⟨by rw [hy], rfl, rfl⟩
            ·
              refine lk_iload_n dX9_water_46 rfl rfl ?_
              refine lk_aload_n dX9_water_47 rfl rfl ?_
              refine lk_getR (f := 0) dX9_water_48 rfl fX9_9 (by decide) (by decide) ?_
              refine lk_bipush (v := 12) dX9_water_51 (by decide) ?_
              refine lk_iload_n dX9_water_53 rfl rfl ?_
              refine lk_iaddN (a := 12) (b := k) dX9_water_54 ?_
              refine lk_ialdN (f := 0) (i := 12 + k) dX9_water_55 rfl (by decide) rfl (by omega) (by decide) ?_
              refine lk_eqtop (y := (V 4 (k))) (lk_r4 (by omega) (by omega)) ?_
              refine lk_aload_n dX9_water_56 rfl rfl ?_
              refine lk_getR (f := 0) dX9_water_57 rfl fX9_9 (by decide) (by decide) ?_
              refine lk_bipush (v := 18) dX9_water_60 (by decide) ?_
              refine lk_iload_n dX9_water_62 rfl rfl ?_
              refine lk_iaddN (a := 18) (b := k) dX9_water_63 ?_
              refine lk_ialdN (f := 0) (i := 18 + k) dX9_water_64 rfl (by decide) rfl (by omega) (by decide) ?_
              refine lk_eqtop (y := (V 5 (k))) (lk_r5 (by omega) (by omega)) ?_
              refine lk_aload_n dX9_water_65 rfl rfl ?_
              refine lk_getR (f := 0) dX9_water_66 rfl fX9_9 (by decide) (by decide) ?_
              refine lk_iconst (v := 0) dX9_water_69 (by decide) ?_
              refine lk_iload_n dX9_water_70 rfl rfl ?_
              refine lk_iaddN (a := 0) (b := k) dX9_water_71 ?_
              refine lk_ialdN (f := 0) (i := 0 + k) dX9_water_72 rfl (by decide) rfl (by omega) (by decide) ?_
              refine lk_eqtop (y := (V 2 (k))) (lk_r2 (by omega) (by omega)) ?_
              refine lk_imul dX9_water_73 ?_
              refine lk_iadd dX9_water_74 ?_
              refine lk_iadd dX9_water_75 ?_
              refine lk_istore_n (L' := [(0, lk_vr 1 0), (1, lk_vi ((y) + ((V 4 (k)) + ((V 5 (k)) * (V 2 (k)))))), (2, lk_vi (nI (k)))]) dX9_water_76 rfl (by decide +kernel) rfl ?_
              refine lk_iincN (a := k) (m := 1) (L' := [(0, lk_vr 1 0), (1, lk_vi ((y) + ((V 4 (k)) + ((V 5 (k)) * (V 2 (k)))))), (2, lk_vi (nI (k + 1)))]) dX9_water_77 rfl rfl (by decide +kernel) rfl ?_
              refine lk_goto (tgt := 35) dX9_water_80 (by decide) ?_
              refine ih (k + 1) _ (by omega) ?_ (by omega)
              rw [hy]; simp only [lk_sm, lk_wat]
              rcases (hV.2.2.2 k (by omega)).2.2.2.2.2.2 with e | e <;> rw [e]
              · rw [if_pos rfl]; grind
              · rw [if_neg (by decide)]; grind
        have : i = n + 1 := by omega
        subst this
        exact LP35 (n + 1) 0 _ (by omega) (by simp [lk_sm]) (by omega)
      ·
        refine lk_iload_n dX9_water_15 rfl rfl ?_
        refine lk_aload_n dX9_water_16 rfl rfl ?_
        refine lk_getR (f := 0) dX9_water_17 rfl fX9_9 (by decide) (by decide) ?_
        refine lk_bipush (v := 24) dX9_water_20 (by decide) ?_
        refine lk_iload_n dX9_water_22 rfl rfl ?_
        refine lk_iaddN (a := 24) (b := i) dX9_water_23 ?_
        refine lk_ialdN (f := 0) (i := 24 + i) dX9_water_24 rfl (by decide) rfl (by omega) (by decide) ?_
        refine lk_eqtop (y := (V 6 (i))) (lk_r6 (by omega) (by omega)) ?_
        refine lk_iadd dX9_water_25 ?_
        refine lk_istore_n (L' := [(0, lk_vr 1 0), (1, lk_vi ((lk_sm (V 6) i) + (V 6 (i)))), (2, lk_vi (nI (i)))]) dX9_water_26 rfl (by decide +kernel) rfl ?_
        refine lk_iincN (a := i) (m := 1) (L' := [(0, lk_vr 1 0), (1, lk_vi ((lk_sm (V 6) i) + (V 6 (i)))), (2, lk_vi (nI (i + 1)))]) dX9_water_27 rfl rfl (by decide +kernel) rfl ?_
        refine lk_goto (tgt := 4) dX9_water_30 (by decide) ?_
        exact ih (i + 1) (by omega) (by omega)
  exact LP4 (n + 2) 0 (by omega) (by omega)

set_option maxHeartbeats 1000000 in
set_option maxRecDepth 100000 in
theorem tX9_account (l : Launch) (X : lk_G) (d : Nat) (σ : lk_N) (τ : lk_T)  : lk_Mt l X mX9_account d [lk_vr 1 0] σ τ (fun rr σ1 τ1 => rr = some (lk_vl (τ 1 4)) ∧ σ1 = σ ∧ τ1 = τ) := by
  refine lk_met (L := [(0, lk_vr 1 0)]) (by decide +kernel) (Nat.le_of_ble_eq_true rfl) rfl ?_
  obtain ⟨Q, hQ⟩ : ∃ Q : lk_Q, Q = fun rr σ1 τ1 => rr = some (lk_vl (τ 1 4)) ∧ σ1 = σ ∧ τ1 = τ := ⟨_, rfl⟩
  rw [← hQ]
  refine lk_aload_n dX9_account_0 rfl rfl ?_
  refine lk_getL (f := 4) dX9_account_1 rfl fX9_237 (by decide) (by decide) ?_
  refine lk_lret dX9_account_4 rfl ?_
  rw [hQ]
  exact ⟨by first | rfl | (simp [*]; done) | (simp_all; done) | grind, by first | rfl | (simp [*]; done), rfl⟩

set_option maxHeartbeats 1000000 in
set_option maxRecDepth 100000 in
theorem tX9_count_0 (l : Launch) (X : lk_G) (d : Nat) (σ : lk_N) (τ : lk_T) (V T : lk_O)  : lk_Mt l X mX9_count d [lk_vr 1 0, lk_vi 0] (lk_ms σ V T) τ (fun rr σ1 τ1 => rr = some (lk_vi (V 0 0)) ∧ σ1 = (lk_ms σ V T) ∧ τ1 = τ) := by
  refine lk_met (L := [(0, lk_vr 1 0), (1, lk_vi 0)]) (by decide +kernel) (Nat.le_of_ble_eq_true rfl) rfl ?_
  obtain ⟨Q, hQ⟩ : ∃ Q : lk_Q, Q = fun rr σ1 τ1 => rr = some (lk_vi (V 0 0)) ∧ σ1 = (lk_ms σ V T) ∧ τ1 = τ := ⟨_, rfl⟩
  rw [← hQ]
  refine lk_iconst (v := 0) dX9_count_0 (by decide) ?_
  refine lk_istore_n (L' := [(0, lk_vr 1 0), (1, lk_vi 0), (2, lk_vi 0)]) dX9_count_1 rfl (by decide +kernel) rfl ?_
  refine lk_iload_n dX9_count_2 rfl rfl ?_
  refine lk_tableIn (off := 37) (tgt := 40) dX9_count_3 (by decide) (by decide) rfl (by decide) ?_
  refine lk_aload_n dX9_count_40 rfl rfl ?_
  refine lk_getR (f := 0) dX9_count_41 rfl fX9_9 (by decide) (by decide) ?_
  refine lk_bipush (v := 53) dX9_count_44 (by decide) ?_
  refine lk_ialdN (f := 0) (i := 53) dX9_count_46 rfl (by decide) rfl (by omega) (by decide) ?_
  refine lk_eqtop (y := (V 0 (0))) (lk_r0 (by omega) (by omega)) ?_
  refine lk_iret .int dX9_count_47 rfl rfl ?_
  rw [hQ]
  exact ⟨by first | rfl | (simp [*]; done) | (simp_all; done) | grind, by first | rfl | (simp [*]; done), rfl⟩

set_option maxHeartbeats 1000000 in
set_option maxRecDepth 100000 in
theorem tX9_count_1 (l : Launch) (X : lk_G) (d : Nat) (σ : lk_N) (τ : lk_T) (V T : lk_O)  : lk_Mt l X mX9_count d [lk_vr 1 0, lk_vi 1] (lk_ms σ V T) τ (fun rr σ1 τ1 => rr = some (lk_vi (σ 1 0 114)) ∧ σ1 = (lk_ms σ V T) ∧ τ1 = τ) := by
  refine lk_met (L := [(0, lk_vr 1 0), (1, lk_vi 1)]) (by decide +kernel) (Nat.le_of_ble_eq_true rfl) rfl ?_
  obtain ⟨Q, hQ⟩ : ∃ Q : lk_Q, Q = fun rr σ1 τ1 => rr = some (lk_vi (σ 1 0 114)) ∧ σ1 = (lk_ms σ V T) ∧ τ1 = τ := ⟨_, rfl⟩
  rw [← hQ]
  refine lk_iconst (v := 0) dX9_count_0 (by decide) ?_
  refine lk_istore_n (L' := [(0, lk_vr 1 0), (1, lk_vi 1), (2, lk_vi 0)]) dX9_count_1 rfl (by decide +kernel) rfl ?_
  refine lk_iload_n dX9_count_2 rfl rfl ?_
  refine lk_tableIn (off := 45) (tgt := 48) dX9_count_3 (by decide) (by decide) rfl (by decide) ?_
  refine lk_aload_n dX9_count_48 rfl rfl ?_
  refine lk_getR (f := 0) dX9_count_49 rfl fX9_9 (by decide) (by decide) ?_
  refine lk_bipush (v := 114) dX9_count_52 (by decide) ?_
  refine lk_ialdN (f := 0) (i := 114) dX9_count_54 rfl (by decide) rfl (by omega) (by decide) ?_
  refine lk_eqtop (y := (σ 1 0 (114))) ((lk_rB (by omega)).trans rfl) ?_
  refine lk_iret .int dX9_count_55 rfl rfl ?_
  rw [hQ]
  exact ⟨by first | rfl | (simp [*]; done) | (simp_all; done) | grind, by first | rfl | (simp [*]; done), rfl⟩

set_option maxHeartbeats 1000000 in
set_option maxRecDepth 100000 in
theorem tX9_count_2 (l : Launch) (X : lk_G) (d : Nat) (σ : lk_N) (τ : lk_T) (V T : lk_O)  : lk_Mt l X mX9_count d [lk_vr 1 0, lk_vi 2] (lk_ms σ V T) τ (fun rr σ1 τ1 => rr = some (lk_vi (σ 1 12 0)) ∧ σ1 = (lk_ms σ V T) ∧ τ1 = τ) := by
  refine lk_met (L := [(0, lk_vr 1 0), (1, lk_vi 2)]) (by decide +kernel) (Nat.le_of_ble_eq_true rfl) rfl ?_
  obtain ⟨Q, hQ⟩ : ∃ Q : lk_Q, Q = fun rr σ1 τ1 => rr = some (lk_vi (σ 1 12 0)) ∧ σ1 = (lk_ms σ V T) ∧ τ1 = τ := ⟨_, rfl⟩
  rw [← hQ]
  refine lk_iconst (v := 0) dX9_count_0 (by decide) ?_
  refine lk_istore_n (L' := [(0, lk_vr 1 0), (1, lk_vi 2), (2, lk_vi 0)]) dX9_count_1 rfl (by decide +kernel) rfl ?_
  refine lk_iload_n dX9_count_2 rfl rfl ?_
  refine lk_tableIn (off := 53) (tgt := 56) dX9_count_3 (by decide) (by decide) rfl (by decide) ?_
  refine lk_aload_n dX9_count_56 rfl rfl ?_
  refine lk_getIv (v := (σ 1 12 (0))) (f := 12) dX9_count_57 rfl fX9_65 (by decide) (by decide) ((lk_rf (by decide)).trans rfl) ?_
  refine lk_iret .int dX9_count_60 rfl rfl ?_
  rw [hQ]
  exact ⟨by first | rfl | (simp [*]; done) | (simp_all; done) | grind, by first | rfl | (simp [*]; done), rfl⟩

set_option maxHeartbeats 1000000 in
set_option maxRecDepth 100000 in
theorem tX9_count_4 (l : Launch) (X : lk_G) (d : Nat) (σ : lk_N) (τ : lk_T) (V T : lk_O)  : lk_Mt l X mX9_count d [lk_vr 1 0, lk_vi 4] (lk_ms σ V T) τ (fun rr σ1 τ1 => rr = some (lk_vi (V 1 0)) ∧ σ1 = (lk_ms σ V T) ∧ τ1 = τ) := by
  refine lk_met (L := [(0, lk_vr 1 0), (1, lk_vi 4)]) (by decide +kernel) (Nat.le_of_ble_eq_true rfl) rfl ?_
  obtain ⟨Q, hQ⟩ : ∃ Q : lk_Q, Q = fun rr σ1 τ1 => rr = some (lk_vi (V 1 0)) ∧ σ1 = (lk_ms σ V T) ∧ τ1 = τ := ⟨_, rfl⟩
  rw [← hQ]
  refine lk_iconst (v := 0) dX9_count_0 (by decide) ?_
  refine lk_istore_n (L' := [(0, lk_vr 1 0), (1, lk_vi 4), (2, lk_vi 0)]) dX9_count_1 rfl (by decide +kernel) rfl ?_
  refine lk_iload_n dX9_count_2 rfl rfl ?_
  refine lk_tableIn (off := 86) (tgt := 89) dX9_count_3 (by decide) (by decide) rfl (by decide) ?_
  refine lk_aload_n dX9_count_89 rfl rfl ?_
  refine lk_getR (f := 0) dX9_count_90 rfl fX9_9 (by decide) (by decide) ?_
  refine lk_bipush (v := 52) dX9_count_93 (by decide) ?_
  refine lk_ialdN (f := 0) (i := 52) dX9_count_95 rfl (by decide) rfl (by omega) (by decide) ?_
  refine lk_eqtop (y := (V 1 (0))) (lk_r1 (by omega) (by omega)) ?_
  refine lk_iret .int dX9_count_96 rfl rfl ?_
  rw [hQ]
  exact ⟨by first | rfl | (simp [*]; done) | (simp_all; done) | grind, by first | rfl | (simp [*]; done), rfl⟩

set_option maxHeartbeats 1000000 in
set_option maxRecDepth 100000 in
theorem tX9_count_bad (l : Launch) (X : lk_G) (d : Nat) (σ : lk_N) (τ : lk_T) (w : Int32) (h : w.toInt < 0 ∨ 5 < w.toInt) : lk_Mt l X mX9_count d [lk_vr 1 0, lk_vi (w)] σ τ (fun rr σ1 τ1 => rr = some (lk_vi (-1)) ∧ σ1 = σ ∧ τ1 = τ) := by
  refine lk_met (L := [(0, lk_vr 1 0), (1, lk_vi (w))]) (by decide +kernel) (Nat.le_of_ble_eq_true rfl) rfl ?_
  obtain ⟨Q, hQ⟩ : ∃ Q : lk_Q, Q = fun rr σ1 τ1 => rr = some (lk_vi (-1)) ∧ σ1 = σ ∧ τ1 = τ := ⟨_, rfl⟩
  rw [← hQ]
  refine lk_iconst (v := 0) dX9_count_0 (by decide) ?_
  refine lk_istore_n (L' := [(0, lk_vr 1 0), (1, lk_vi (w)), (2, lk_vi 0)]) dX9_count_1 rfl (by decide +kernel) rfl ?_
  refine lk_iload_n dX9_count_2 rfl rfl ?_
  refine lk_tableOut (tgt := 130) dX9_count_3 h (by decide) ?_
  refine lk_iconst (v := (-1)) dX9_count_130 (by decide) ?_
  refine lk_iret .int dX9_count_131 rfl rfl ?_
  rw [hQ]
  exact ⟨by first | rfl | (simp [*]; done) | (simp_all; done) | grind, by first | rfl | (simp [*]; done), rfl⟩

set_option maxHeartbeats 1000000 in
set_option maxRecDepth 100000 in
theorem tX9_count_3 (l : Launch) (X : lk_G) (d : Nat) (σ : lk_N) (τ : lk_T) (V T : lk_O) (h1 : σ 1 0 233 = 0) (h2 : σ 1 0 234 = 0) : lk_Mt l X mX9_count d [lk_vr 1 0, lk_vi 3] (lk_ms σ V T) τ (fun rr σ1 τ1 => rr = some (lk_vi (lk_sm (T 0) 118)) ∧ σ1 = (lk_ms σ V T) ∧ τ1 = τ) := by
  refine lk_met (L := [(0, lk_vr 1 0), (1, lk_vi 3)]) (by decide +kernel) (Nat.le_of_ble_eq_true rfl) rfl ?_
  obtain ⟨Q, hQ⟩ : ∃ Q : lk_Q, Q = fun rr σ1 τ1 => rr = some (lk_vi (lk_sm (T 0) 118)) ∧ σ1 = (lk_ms σ V T) ∧ τ1 = τ := ⟨_, rfl⟩
  rw [← hQ]
  refine lk_iconst (v := 0) dX9_count_0 (by decide) ?_
  refine lk_istore_n (L' := [(0, lk_vr 1 0), (1, lk_vi 3), (2, lk_vi 0)]) dX9_count_1 rfl (by decide +kernel) rfl ?_
  refine lk_iload_n dX9_count_2 rfl rfl ?_
  refine lk_tableIn (off := 58) (tgt := 61) dX9_count_3 (by decide) (by decide) rfl (by decide) ?_
  refine lk_iconst (v := 0) dX9_count_61 (by decide) ?_
  refine lk_istore_n (L' := [(0, lk_vr 1 0), (1, lk_vi 3), (2, lk_vi 0), (3, lk_vi 0)]) dX9_count_62 rfl (by decide +kernel) rfl ?_
  have LP63 : ∀ (fu : Nat) (i : Nat) (y : Int32), i ≤ 120 → y = lk_sm (fun k => lk_ms σ V T 1 0 (115 + k)) i → 120 - i < fu → lk_W l X mX9_count d 63 [(0, lk_vr 1 0), (1, lk_vi 3), (2, lk_vi (y)), (3, lk_vi (nI (i)))] [] (lk_ms σ V T) τ Q := by
    intro fu
    induction fu with
    | zero => intro i y hi hy hfu; exact absurd hfu (by omega)
    | succ fu ih =>
      intro i y hi hy hfu
      refine lk_iload_n dX9_count_63 rfl rfl ?_
      refine lk_bipush (v := 120) dX9_count_64 (by decide) ?_
      refine lk_icmp_geN (a := i) (b := 120) (tgt := 87) dX9_count_66 (by decide) (by omega) (by omega) (fun hh1 => ?_) (fun hh1 => ?_)
      ·
        refine lk_iload_n dX9_count_87 rfl rfl ?_
        refine lk_iret .int dX9_count_88 rfl rfl ?_
        rw [hQ]
        have : i = 120 := by omega
        subst this
        exact ⟨by rw [hy, lk_sm120 h1 h2], rfl, rfl⟩
      ·
        refine lk_iload_n dX9_count_69 rfl rfl ?_
        refine lk_aload_n dX9_count_70 rfl rfl ?_
        refine lk_getR (f := 0) dX9_count_71 rfl fX9_9 (by decide) (by decide) ?_
        refine lk_bipush (v := 115) dX9_count_74 (by decide) ?_
        refine lk_iload_n dX9_count_76 rfl rfl ?_
        refine lk_iaddN (a := 115) (b := i) dX9_count_77 ?_
        refine lk_ialdN (f := 0) (i := 115 + i) dX9_count_78 rfl (by decide) rfl (by omega) (by decide) ?_
        refine lk_iadd dX9_count_79 ?_
        refine lk_istore_n (L' := [(0, lk_vr 1 0), (1, lk_vi 3), (2, lk_vi ((y) + ((lk_ms σ V T) 1 0 (115 + i)))), (3, lk_vi (nI (i)))]) dX9_count_80 rfl (by decide +kernel) rfl ?_
        refine lk_iincN (a := i) (m := 1) (L' := [(0, lk_vr 1 0), (1, lk_vi 3), (2, lk_vi ((y) + ((lk_ms σ V T) 1 0 (115 + i)))), (3, lk_vi (nI (i + 1)))]) dX9_count_81 rfl rfl (by decide +kernel) rfl ?_
        refine lk_goto (tgt := 63) dX9_count_84 (by decide) ?_
        refine ih (i + 1) _ (by omega) ?_ (by omega)
        rw [hy]; rfl
  exact LP63 121 0 0 (by omega) rfl (by omega)

set_option maxHeartbeats 1000000 in
set_option maxRecDepth 100000 in
theorem tX9_count_5 (l : Launch) (X : lk_G) (d : Nat) (σ : lk_N) (τ : lk_T) (V T : lk_O) (n : Nat) (hV : lk_cok V n)  : lk_Mt l X mX9_count d [lk_vr 1 0, lk_vi 5] (lk_ms σ V T) τ (fun rr σ1 τ1 => rr = some (lk_vi (nI (lk_ct (fun k => decide (¬ V 5 k = 0)) n))) ∧ σ1 = (lk_ms σ V T) ∧ τ1 = τ) := by
  refine lk_met (L := [(0, lk_vr 1 0), (1, lk_vi 5)]) (by decide +kernel) (Nat.le_of_ble_eq_true rfl) rfl ?_
  obtain ⟨Q, hQ⟩ : ∃ Q : lk_Q, Q = fun rr σ1 τ1 => rr = some (lk_vi (nI (lk_ct (fun k => decide (¬ V 5 k = 0)) n))) ∧ σ1 = (lk_ms σ V T) ∧ τ1 = τ := ⟨_, rfl⟩
  rw [← hQ]
  have hn6 := hV.2.2.1
  refine lk_iconst (v := 0) dX9_count_0 (by decide) ?_
  refine lk_istore_n (L' := [(0, lk_vr 1 0), (1, lk_vi 5), (2, lk_vi 0)]) dX9_count_1 rfl (by decide +kernel) rfl ?_
  refine lk_iload_n dX9_count_2 rfl rfl ?_
  refine lk_tableIn (off := 94) (tgt := 97) dX9_count_3 (by decide) (by decide) rfl (by decide) ?_
  refine lk_iconst (v := 0) dX9_count_97 (by decide) ?_
  refine lk_istore_n (L' := [(0, lk_vr 1 0), (1, lk_vi 5), (2, lk_vi 0), (3, lk_vi 0)]) dX9_count_98 rfl (by decide +kernel) rfl ?_
  have LP99 : ∀ (fu : Nat) (i : Nat) (y : Int32), i ≤ n → y = nI (lk_ct (fun k => decide (¬ V 5 k = 0)) i) → n - i < fu → lk_W l X mX9_count d 99 [(0, lk_vr 1 0), (1, lk_vi 5), (2, lk_vi (y)), (3, lk_vi (nI (i)))] [] (lk_ms σ V T) τ Q := by
    intro fu
    induction fu with
    | zero => intro i y hi hy hfu; exact absurd hfu (by omega)
    | succ fu ih =>
      intro i y hi hy hfu
      refine lk_iload_n dX9_count_99 rfl rfl ?_
      refine lk_aload_n dX9_count_100 rfl rfl ?_
      refine lk_getR (f := 0) dX9_count_101 rfl fX9_9 (by decide) (by decide) ?_
      refine lk_bipush (v := 53) dX9_count_104 (by decide) ?_
      refine lk_ialdN (f := 0) (i := 53) dX9_count_106 rfl (by decide) rfl (by omega) (by decide) ?_
      refine lk_eqtop (y := (nI (n))) ((lk_r0 rfl rfl).trans hV.1) ?_
      refine lk_icmp_geN (a := i) (b := n) (tgt := 128) dX9_count_107 (by decide) (by omega) (by omega) (fun hh1 => ?_) (fun hh1 => ?_)
      ·
        refine lk_iload_n dX9_count_128 rfl rfl ?_
        refine lk_iret .int dX9_count_129 rfl rfl ?_
        rw [hQ]
        have : i = n := by omega
        subst this
        exact ⟨by rw [hy], rfl, rfl⟩
      ·
        refine lk_iload_n dX9_count_110 rfl rfl ?_
        refine lk_aload_n dX9_count_111 rfl rfl ?_
        refine lk_getR (f := 0) dX9_count_112 rfl fX9_9 (by decide) (by decide) ?_
        refine lk_bipush (v := 18) dX9_count_115 (by decide) ?_
        refine lk_iload_n dX9_count_117 rfl rfl ?_
        refine lk_iaddN (a := 18) (b := i) dX9_count_118 ?_
        refine lk_ialdN (f := 0) (i := 18 + i) dX9_count_119 rfl (by decide) rfl (by omega) (by decide) ?_
        refine lk_eqtop (y := (V 5 (i))) (lk_r5 (by omega) (by omega)) ?_
        refine lk_iadd dX9_count_120 ?_
        refine lk_istore_n (L' := [(0, lk_vr 1 0), (1, lk_vi 5), (2, lk_vi ((y) + (V 5 (i)))), (3, lk_vi (nI (i)))]) dX9_count_121 rfl (by decide +kernel) rfl ?_
        refine lk_iincN (a := i) (m := 1) (L' := [(0, lk_vr 1 0), (1, lk_vi 5), (2, lk_vi ((y) + (V 5 (i)))), (3, lk_vi (nI (i + 1)))]) dX9_count_122 rfl rfl (by decide +kernel) rfl ?_
        refine lk_goto (tgt := 99) dX9_count_125 (by decide) ?_
        refine ih (i + 1) _ (by omega) ?_ (by omega)
        rw [hy]; simp only [lk_ct]
        rcases (hV.2.2.2 i (by omega)).2.2.2.2.2.2 with e | e
        · simp [e]
        · simp [e]; exact nI_add _ 1
  exact LP99 (n + 1) 0 0 (by omega) rfl (by omega)
