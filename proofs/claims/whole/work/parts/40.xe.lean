theorem lk_s3_s3 (σ : lk_N) (V T K V2 T2 K2 : lk_O) : lk_s3 (lk_s3 σ V T K) V2 T2 K2 = lk_s3 σ V2 T2 K2 := by
  funext a
  simp only [lk_s3, lk_s2, lk_so]
  grind
theorem lk_s3_o8 (σ : lk_N) (V T K V2 : lk_O) : lk_so (lk_s3 σ V T K) 8 V2 = lk_s3 σ V2 T K := by
  funext a
  simp only [lk_s3, lk_s2, lk_so]
  grind
theorem lk_eqr_cok {V W : lk_O} {n : Nat} (h : lk_eqr V W) (hc : lk_cok V n) : lk_cok W n := by
  refine ⟨by rw [← h.1]; exact hc.1, hc.2.1, hc.2.2.1, fun k hk => ?_⟩
  have := hc.2.2.2 k hk
  unfold lk_lok at this ⊢
  rw [← h.2.2.1 2 k (by decide) (by decide) hk, ← h.2.2.1 3 k (by decide) (by decide) hk, ← h.2.2.1 4 k (by decide) (by decide) hk, ← h.2.2.1 5 k (by decide) (by decide) hk]
  exact this
/-- levels from y on, t being told: the i-th, or how many -/
def lk_lvw (V : lk_O) (n : Nat) (i : Int32) : Nat → Nat → Int32 → Int32 ⊕ Nat
  | 0, t, _ => .inr t
  | m + 1, t, y => if y < 0 ∨ 6 < t then .inr t else if nI t = i then .inl y else lk_lvw V n i m (t + 1) (lk_llo V y (n + 1))
def lk_lvs (V : lk_O) (n : Nat) (i : Int32) : Int32 := match lk_lvw V n i 8 0 (lk_llo V (-1) (n + 1)) with
  | .inl y => y
  | .inr t => if i = -1 then nI t else -2
theorem lk_far0 {w : Int32} (hw : 14 ≤ w) : (14 : Int) ≤ w.toInt := by have := Int32.le_iff_toInt_le.mp hw; simpa using this
theorem lk_far {w : Int32} (hw : 14 ≤ w) : 4 ≤ w - 10 := by
  have h := lk_far0 hw
  have h2 := Int32.toInt_lt w
  apply Int32.le_iff_toInt_le.mpr
  rw [Int32.toInt_sub, show (10 : Int32).toInt = 10 from rfl, show (4 : Int32).toInt = 4 from rfl, Int.bmod_eq_of_le] <;> omega
theorem lk_far1 {w : Int32} (hw : 14 ≤ w) : ¬ w < 0 := by
  have h := lk_far0 hw
  intro q; have := Int32.lt_iff_toInt_lt.mp q
  rw [show (0 : Int32).toInt = 0 from rfl] at this; omega
theorem lk_far2 {w : Int32} (hw : 14 ≤ w) : ¬ w ≤ 4 := by
  have h := lk_far0 hw
  intro q; have := Int32.le_iff_toInt_le.mp q
  rw [show (4 : Int32).toInt = 4 from rfl] at this; omega
theorem lk_far3 {w : Int32} (hw : 14 ≤ w) : ¬ ¬ 10 ≤ w := by
  have h := lk_far0 hw
  intro q; apply q; apply Int32.le_iff_toInt_le.mpr
  rw [show (10 : Int32).toInt = 10 from rfl]; omega
set_option maxHeartbeats 1000000 in
set_option maxRecDepth 100000 in
theorem tX8_pond_bad (l : Launch) (X : lk_G) (d : Nat) (σ : lk_N) (τ : lk_T) (u e m : Int32) (h : ¬ ((0 ≤ u ∧ u ≤ 4) ∧ (0 ≤ e ∧ e ≤ 4) ∧ 1 ≤ m ∧ m ≤ 20)) : lk_Mt l X mX8_pond (d + 6) [lk_vr 0 0, lk_vi (u), lk_vi (e), lk_vi (m)] σ τ (fun rr σ1 τ1 => rr = some (lk_vi (-1)) ∧ σ1 = σ ∧ τ1 = τ) := by
  refine lk_met (L := [(0, lk_vr 0 0), (1, lk_vi (u)), (2, lk_vi (e)), (3, lk_vi (m))]) (by decide +kernel) (Nat.le_of_ble_eq_true rfl) rfl ?_
  obtain ⟨Q, hQ⟩ : ∃ Q : lk_Q, Q = fun rr σ1 τ1 => rr = some (lk_vi (-1)) ∧ σ1 = σ ∧ τ1 = τ := ⟨_, rfl⟩
  rw [← hQ]
  refine lk_iload_n dX8_pond_0 rfl rfl ?_
  refine lk_callS (as := [lk_vi (u)]) (S := []) dX8_pond_1 rfl vX8_isTraffic rfl lX8_305 (Nat.le_of_ble_eq_true rfl) (tX8_isTraffic l X (d + 5) σ τ (v := (u)) ) ?_
  refine lk_k3 ?_
  refine lk_cast (pc' := 4) (S' := [lk_vi (if 0 ≤ (u) ∧ (u) ≤ 4 then 1 else 0)]) rfl rfl rfl ?_
  refine lk_if_eqB (tgt := 25) dX8_pond_4 (by decide) (fun hh1 => ?_) (fun hh1 => ?_)
  ·
    refine lk_iconst (v := (-1)) dX8_pond_25 (by decide) ?_
    refine lk_iret .int dX8_pond_26 rfl rfl ?_
    rw [hQ]
    exact ⟨by first | rfl | (simp [*]; done) | (simp_all; done) | grind, by first | rfl | (simp [*]; done), rfl⟩
  ·
    refine lk_iload_n dX8_pond_7 rfl rfl ?_
    refine lk_callS (as := [lk_vi (e)]) (S := []) dX8_pond_8 rfl vX8_isTraffic rfl lX8_305 (Nat.le_of_ble_eq_true rfl) (tX8_isTraffic l X (d + 5) σ τ (v := (e)) ) ?_
    refine lk_k3 ?_
    refine lk_cast (pc' := 11) (S' := [lk_vi (if 0 ≤ (e) ∧ (e) ≤ 4 then 1 else 0)]) rfl rfl rfl ?_
    refine lk_if_eqB (tgt := 25) dX8_pond_11 (by decide) (fun hh2 => ?_) (fun hh2 => ?_)
    ·
      refine lk_iconst (v := (-1)) dX8_pond_25 (by decide) ?_
      refine lk_iret .int dX8_pond_26 rfl rfl ?_
      rw [hQ]
      exact ⟨by first | rfl | (simp [*]; done) | (simp_all; done) | grind, by first | rfl | (simp [*]; done), rfl⟩
    ·
      refine lk_iload_n dX8_pond_14 rfl rfl ?_
      refine lk_iconst (v := 1) dX8_pond_15 (by decide) ?_
      refine lk_icmp_lt (tgt := 25) dX8_pond_16 (by decide) (fun hh3 => ?_) (fun hh3 => ?_)
      ·
        refine lk_iconst (v := (-1)) dX8_pond_25 (by decide) ?_
        refine lk_iret .int dX8_pond_26 rfl rfl ?_
        rw [hQ]
        exact ⟨by first | rfl | (simp [*]; done) | (simp_all; done) | grind, by first | rfl | (simp [*]; done), rfl⟩
      ·
        refine lk_iload_n dX8_pond_19 rfl rfl ?_
        refine lk_bipush (v := 20) dX8_pond_20 (by decide) ?_
        refine lk_icmp_le (tgt := 27) dX8_pond_22 (by decide) (fun hh4 => ?_) (fun hh4 => ?_)
        ·
          exact absurd ⟨by assumption, by assumption, Int32.not_lt.mp (by assumption), by assumption⟩ h
        ·
          refine lk_iconst (v := (-1)) dX8_pond_25 (by decide) ?_
          refine lk_iret .int dX8_pond_26 rfl rfl ?_
          rw [hQ]
          exact ⟨by first | rfl | (simp [*]; done) | (simp_all; done) | grind, by first | rfl | (simp [*]; done), rfl⟩

set_option maxHeartbeats 1000000 in
set_option maxRecDepth 100000 in
theorem tX8_pond_ok (l : Launch) (X : lk_G) (d : Nat) (σ : lk_N) (τ : lk_T) (n : Nat) (hV : lk_cok (σ 2) n) (u e : Nat) (hu : u ≤ 4) (he : e ≤ 4) (m : Nat) (hm1 : 1 ≤ m) (hm20 : m ≤ 20) (h01 : ∀ k, k < 6 → σ 2 5 k = 0 ∨ σ 2 5 k = 1) : lk_Mt l X mX8_pond (d + 6) [lk_vr 0 0, lk_vi (nI (u)), lk_vi (nI (e)), lk_vi (nI (m))] σ τ (fun rr σ1 τ1 => rr = some (lk_vi (lk_pon (σ 2) (σ 3) n u e m n).2) ∧ τ1 = τ ∧ ∃ W : lk_O × lk_O × lk_O, σ1 = lk_s3 σ W.1 W.2.1 W.2.2) := by
  refine lk_met (L := [(0, lk_vr 0 0), (1, lk_vi (nI (u))), (2, lk_vi (nI (e))), (3, lk_vi (nI (m)))]) (by decide +kernel) (Nat.le_of_ble_eq_true rfl) rfl ?_
  obtain ⟨Q, hQ⟩ : ∃ Q : lk_Q, Q = fun rr σ1 τ1 => rr = some (lk_vi (lk_pon (σ 2) (σ 3) n u e m n).2) ∧ τ1 = τ ∧ ∃ W : lk_O × lk_O × lk_O, σ1 = lk_s3 σ W.1 W.2.1 W.2.2 := ⟨_, rfl⟩
  rw [← hQ]
  have hn6 := hV.2.2.1
  refine lk_iload_n dX8_pond_0 rfl rfl ?_
  refine lk_callS (as := [lk_vi (nI (u))]) (S := []) dX8_pond_1 rfl vX8_isTraffic rfl lX8_305 (Nat.le_of_ble_eq_true rfl) (tX8_isTraffic l X (d + 5) σ τ (v := (nI (u))) ) ?_
  refine lk_k3 ?_
  refine lk_cast (pc' := 4) (S' := [lk_vi (if 0 ≤ (nI (u)) ∧ (nI (u)) ≤ 4 then 1 else 0)]) rfl rfl rfl ?_
  refine lk_if_eqB (tgt := 25) dX8_pond_4 (by decide) (fun hh1 => absurd hh1 (by intro q; exact q (lk_tr hu))) (fun hh1 => ?_)
  refine lk_iload_n dX8_pond_7 rfl rfl ?_
  refine lk_callS (as := [lk_vi (nI (e))]) (S := []) dX8_pond_8 rfl vX8_isTraffic rfl lX8_305 (Nat.le_of_ble_eq_true rfl) (tX8_isTraffic l X (d + 5) σ τ (v := (nI (e))) ) ?_
  refine lk_k3 ?_
  refine lk_cast (pc' := 11) (S' := [lk_vi (if 0 ≤ (nI (e)) ∧ (nI (e)) ≤ 4 then 1 else 0)]) rfl rfl rfl ?_
  refine lk_if_eqB (tgt := 25) dX8_pond_11 (by decide) (fun hh2 => absurd hh2 (by intro q; exact q (lk_tr he))) (fun hh2 => ?_)
  refine lk_iload_n dX8_pond_14 rfl rfl ?_
  refine lk_iconst (v := 1) dX8_pond_15 (by decide) ?_
  refine lk_icmp_ltN (a := m) (b := 1) (tgt := 25) dX8_pond_16 (by decide) (by omega) (by omega) (fun hh3 => absurd hh3 (by omega)) (fun hh3 => ?_)
  refine lk_iload_n dX8_pond_19 rfl rfl ?_
  refine lk_bipush (v := 20) dX8_pond_20 (by decide) ?_
  refine lk_icmp_leN (a := m) (b := 20) (tgt := 27) dX8_pond_22 (by decide) (by omega) (by omega) (fun hh4 => ?_) (fun hh4 => absurd hh4 (by omega))
  refine lk_aload_n dX8_pond_27 rfl rfl ?_
  refine lk_getO (f := 8) (o' := 8) dX8_pond_28 rfl fX8_38 (by decide) (by decide) rfl ?_
  refine lk_aload_n dX8_pond_31 rfl rfl ?_
  refine lk_getO (f := 0) (o' := 2) dX8_pond_32 rfl fX8_14 (by decide) (by decide) rfl ?_
  refine lk_callV (o := 8) (as := [lk_vr 2 0]) (S := []) dX8_pond_35 rfl vX0_copyFrom rfl lX8_210 rfl rfl (Nat.le_of_ble_eq_true rfl) (tX0_copyFrom l X (d + 2) σ τ (c := 8) (o := 2) (hc := rfl) (ho := rfl) (hco := by decide) (h01 := h01)) ?_
  refine lk_k3 ?_
  refine lk_cast (pc' := 38) (S' := []) rfl rfl rfl ?_
  refine lk_sg (σ' := lk_s3 σ (lk_im (σ 2) (σ 8)) (σ 3) (σ 10)) (lk_s3_cp0 σ _ _).symm ?_
  refine lk_aload_n dX8_pond_38 rfl rfl ?_
  refine lk_iload_n dX8_pond_39 rfl rfl ?_
  refine lk_iload_n dX8_pond_40 rfl rfl ?_
  refine lk_iload_n dX8_pond_41 rfl rfl ?_
  refine lk_callV (o := 0) (as := [lk_vi (nI (u)), lk_vi (nI (e)), lk_vi (nI (m))]) (S := []) dX8_pond_42 rfl vX8_summitInThought rfl lX8_318 rfl rfl (Nat.le_of_ble_eq_true rfl) (tX8_summitInThought l X d (lk_s3 σ (lk_im (σ 2) (σ 8)) (σ 3) (σ 10)) τ (u := (u)) (e := (e)) (m := (m)) (n := n) (hV := by rw [lk_s3_8]; exact lk_im_cok hV) (hu := hu) (he := he) (hm := hm20)) ?_
  refine lk_k5 (fun K2 => ?_)
  refine lk_cast (pc' := 45) (S' := [lk_vi (((lk_dys n u e m (σ 2) (σ 3)).1 6 n))]) rfl rfl (by rw [← (lk_dys_c hV.2.2.1 m (lk_eqr_im (σ 2) (σ 8)) (fun _ _ => rfl)).2.2.2 6 n (by decide) (by decide) (Nat.lt_succ_of_le hV.2.2.1)]; rfl) ?_
  refine lk_sg (σ' := (lk_s3 σ (lk_dys n u e m (lk_im (σ 2) (σ 8)) (σ 3)).1 (lk_dys n u e m (lk_im (σ 2) (σ 8)) (σ 3)).2 K2)) ?_ ?_
  · simp only [lk_s3_8, lk_s3_9, lk_s3_s3]
  refine lk_istore (L' := [(0, lk_vr 0 0), (1, lk_vi (nI (u))), (2, lk_vi (nI (e))), (3, lk_vi (nI (m))), (4, lk_vi (((lk_dys n u e m (σ 2) (σ 3)).1 6 n)))]) dX8_pond_45 (by decide +kernel) rfl ?_
  refine lk_bipush (v := (-2)) dX8_pond_47 (by decide) ?_
  refine lk_istore (L' := [(0, lk_vr 0 0), (1, lk_vi (nI (u))), (2, lk_vi (nI (e))), (3, lk_vi (nI (m))), (4, lk_vi (((lk_dys n u e m (σ 2) (σ 3)).1 6 n))), (5, lk_vi (-2))]) dX8_pond_49 (by decide +kernel) rfl ?_
  refine lk_iconst (v := 0) dX8_pond_51 (by decide) ?_
  refine lk_istore (L' := [(0, lk_vr 0 0), (1, lk_vi (nI (u))), (2, lk_vi (nI (e))), (3, lk_vi (nI (m))), (4, lk_vi (((lk_dys n u e m (σ 2) (σ 3)).1 6 n))), (5, lk_vi (-2)), (6, lk_vi 0)]) dX8_pond_52 (by decide +kernel) rfl ?_
  have LP54 : ∀ (fu : Nat) (k : Nat) (a b : Int32) (V T K : lk_O), k ≤ n → lk_pon (σ 2) (σ 3) n u e m k = (a, b) → n - k < fu → lk_W l X mX8_pond (d + 6) 54 [(0, lk_vr 0 0), (1, lk_vi (nI (u))), (2, lk_vi (nI (e))), (3, lk_vi (nI (m))), (4, lk_vi (a)), (5, lk_vi (b)), (6, lk_vi (nI (k)))] [] (lk_s3 σ V T K) τ Q := by
    intro fu
    induction fu with
    | zero => intro k a b V T K hk hI hfu; exact absurd hfu (by omega)
    | succ fu ih =>
      intro k a b V T K hk hI hfu
      refine lk_iload dX8_pond_54 rfl ?_
      refine lk_aload_n dX8_pond_56 rfl rfl ?_
      refine lk_getO (f := 0) (o' := 2) dX8_pond_57 rfl fX8_14 (by decide) (by decide) rfl ?_
      refine lk_getIv (v := (nI (n))) (f := 0) dX8_pond_60 rfl fX8_72 (by decide) (by decide) (by rw [lk_s3_ne (by decide) (by decide) (by decide)]; exact hV.1) ?_
      refine lk_icmp_geN (a := k) (b := n) (tgt := 147) dX8_pond_63 (by decide) (by omega) (by omega) (fun hh5 => ?_) (fun hh5 => ?_)
      ·
        refine lk_iload dX8_pond_147 rfl ?_
        refine lk_iret .int dX8_pond_149 rfl rfl ?_
        rw [hQ]
        have hkn : k = n := by omega
        subst hkn
        rw [hI]
        exact ⟨rfl, rfl, (V, T, K), rfl⟩
      ·
        have hkn : k < n := by omega
        refine lk_aload_n dX8_pond_66 rfl rfl ?_
        refine lk_getO (f := 0) (o' := 2) dX8_pond_67 rfl fX8_14 (by decide) (by decide) rfl ?_
        refine lk_getR (f := 3) dX8_pond_70 rfl fX8_98 (by decide) (by decide) ?_
        refine lk_iload dX8_pond_73 rfl ?_
        refine lk_ialdN (f := 3) (i := k) dX8_pond_75 rfl (by decide) rfl (by omega) (by decide) ?_
        refine lk_eqtop (y := (σ 2 3 k)) (by rw [lk_s3_ne (by decide) (by decide) (by decide)]) ?_
        refine lk_iconst (v := 3) dX8_pond_76 (by decide) ?_
        refine lk_icmp_ge (tgt := 141) dX8_pond_77 (by decide) (fun hh6 => ?_) (fun hh6 => ?_)
        ·
          refine lk_iincN (a := k) (m := 1) (L' := [(0, lk_vr 0 0), (1, lk_vi (nI (u))), (2, lk_vi (nI (e))), (3, lk_vi (nI (m))), (4, lk_vi (a)), (5, lk_vi (b)), (6, lk_vi (nI (k + 1)))]) dX8_pond_141 rfl rfl (by decide +kernel) rfl ?_
          refine lk_goto (tgt := 54) dX8_pond_144 (by decide) ?_
          refine ih (k + 1) _ _ _ _ _ (by omega) ?_ (by omega)
          · rw [lk_pon, if_neg (by rintro ⟨z1, z2, z3⟩; first | contradiction | exact absurd z1 (Int32.not_lt.mpr (by assumption)))]
            exact hI
        ·
          refine lk_aload_n dX8_pond_80 rfl rfl ?_
          refine lk_getO (f := 0) (o' := 2) dX8_pond_81 rfl fX8_14 (by decide) (by decide) rfl ?_
          refine lk_iload dX8_pond_84 rfl ?_
          refine lk_callV (o := 2) (as := [lk_vi (nI (k))]) (S := []) dX8_pond_86 rfl vX0_isAtRest rfl lX8_87 rfl rfl (Nat.le_of_ble_eq_true rfl) (tX0_isAtRest l X (d + 5) (lk_s3 σ V T K) τ (c := 2) (k := (k)) (hc := rfl) (hk := Nat.lt_of_lt_of_le hkn hV.2.2.1)) ?_
          refine lk_k3 ?_
          refine lk_cast (pc' := 89) (S' := [lk_vi (if (lk_s3 σ V T K) 2 5 (k) = 0 ∧ (lk_s3 σ V T K) 2 4 (k) = 0 then 1 else 0)]) rfl rfl rfl ?_
          refine lk_eqtop (y := (if σ 2 5 k = 0 ∧ σ 2 4 k = 0 then (1 : Int32) else 0)) (by simp only [lk_s3_ne (show ¬ 2 = 8 by decide) (show ¬ 2 = 9 by decide) (show ¬ 2 = 10 by decide)]) ?_
          refine lk_if_eqB (tgt := 141) dX8_pond_89 (by decide) (fun hh7 => ?_) (fun hh7 => ?_)
          ·
            refine lk_iincN (a := k) (m := 1) (L' := [(0, lk_vr 0 0), (1, lk_vi (nI (u))), (2, lk_vi (nI (e))), (3, lk_vi (nI (m))), (4, lk_vi (a)), (5, lk_vi (b)), (6, lk_vi (nI (k + 1)))]) dX8_pond_141 rfl rfl (by decide +kernel) rfl ?_
            refine lk_goto (tgt := 54) dX8_pond_144 (by decide) ?_
            refine ih (k + 1) _ _ _ _ _ (by omega) ?_ (by omega)
            · rw [lk_pon, if_neg (by rintro ⟨z1, z2, z3⟩; first | contradiction | exact absurd z1 (Int32.not_lt.mpr (by assumption)))]
              exact hI
          ·
            refine lk_aload_n dX8_pond_92 rfl rfl ?_
            refine lk_getO (f := 8) (o' := 8) dX8_pond_93 rfl fX8_38 (by decide) (by decide) rfl ?_
            refine lk_aload_n dX8_pond_96 rfl rfl ?_
            refine lk_getO (f := 0) (o' := 2) dX8_pond_97 rfl fX8_14 (by decide) (by decide) rfl ?_
            refine lk_callV (o := 8) (as := [lk_vr 2 0]) (S := []) dX8_pond_100 rfl vX0_copyFrom rfl lX8_210 rfl rfl (Nat.le_of_ble_eq_true rfl) (tX0_copyFrom l X (d + 2) (lk_s3 σ V T K) τ (c := 8) (o := 2) (hc := rfl) (ho := rfl) (hco := by decide) (h01 := by rw [lk_s3_ne (by decide) (by decide) (by decide)]; exact h01)) ?_
            refine lk_k3 ?_
            refine lk_cast (pc' := 103) (S' := []) rfl rfl rfl ?_
            refine lk_sg (σ' := lk_s3 σ (lk_im (σ 2) V) (σ 3) K) (by rw [← lk_s3_cp σ V T K]; simp only [Nat.reduceAdd, lk_s3_8, lk_s3_ne (show ¬ 2 = 8 by decide) (show ¬ 2 = 9 by decide) (show ¬ 2 = 10 by decide), lk_s3_ne (show ¬ 3 = 8 by decide) (show ¬ 3 = 9 by decide) (show ¬ 3 = 10 by decide)]) ?_
            refine lk_aload_n dX8_pond_103 rfl rfl ?_
            refine lk_getO (f := 8) (o' := 8) dX8_pond_104 rfl fX8_38 (by decide) (by decide) rfl ?_
            refine lk_getR (f := 3) dX8_pond_107 rfl fX8_98 (by decide) (by decide) ?_
            refine lk_iload dX8_pond_110 rfl ?_
            refine lk_dup2 dX8_pond_112 rfl rfl ?_
            refine lk_ialdN (f := 3) (i := k) dX8_pond_113 rfl (by decide) rfl (by omega) (by decide) ?_
            refine lk_iconst (v := 1) dX8_pond_114 (by decide) ?_
            refine lk_iadd dX8_pond_115 ?_
            refine lk_iastN (f := 3) (i := k) (v := (((lk_s3 σ (lk_im (σ 2) V) (σ 3) K) 8 3 (k)) + 1)) dX8_pond_116 rfl (by decide) rfl (by omega) (by decide) ?_
            refine lk_sg (σ' := lk_s3 σ (lk_ou (lk_im (σ 2) V) 3 k (lk_im (σ 2) V 3 k + 1)) (σ 3) K) (by rw [lk_up_so, lk_s3_8]; exact (lk_s3_o8 σ _ _ _ _).symm) ?_
            refine lk_aload_n dX8_pond_117 rfl rfl ?_
            refine lk_iload_n dX8_pond_118 rfl rfl ?_
            refine lk_iload_n dX8_pond_119 rfl rfl ?_
            refine lk_iload_n dX8_pond_120 rfl rfl ?_
            refine lk_callV (o := 0) (as := [lk_vi (nI (u)), lk_vi (nI (e)), lk_vi (nI (m))]) (S := []) dX8_pond_121 rfl vX8_summitInThought rfl lX8_318 rfl rfl (Nat.le_of_ble_eq_true rfl) (tX8_summitInThought l X d (lk_s3 σ (lk_ou (lk_im (σ 2) V) 3 k (lk_im (σ 2) V 3 k + 1)) (σ 3) K) τ (u := (u)) (e := (e)) (m := (m)) (n := n) (hV := by rw [lk_s3_8]; exact lk_eqr_cok (lk_eqr_sy (lk_eqr_ou (lk_eqr_im (σ 2) V) 3 k _)) (lk_ou_cok hV hkn (Int32.not_le.mp (by assumption)) (by assumption))) (hu := hu) (he := he) (hm := hm20)) ?_
            refine lk_k5 (fun K2 => ?_)
            refine lk_cast (pc' := 124) (S' := [lk_vi (((lk_dys n u e m (lk_ou (σ 2) 3 k (σ 2 3 k + 1)) (σ 3)).1 6 n))]) rfl rfl (by rw [← (lk_dys_c hV.2.2.1 m (lk_eqr_ou (lk_eqr_im (σ 2) V) 3 k _) (fun _ _ => rfl)).2.2.2 6 n (by decide) (by decide) (Nat.lt_succ_of_le hV.2.2.1)]; rfl) ?_
            refine lk_sg (σ' := (lk_s3 σ (lk_dys n u e m (lk_ou (lk_im (σ 2) V) 3 k (lk_im (σ 2) V 3 k + 1)) (σ 3)).1 (lk_dys n u e m (lk_ou (lk_im (σ 2) V) 3 k (lk_im (σ 2) V 3 k + 1)) (σ 3)).2 K2)) ?_ ?_
            · simp only [lk_s3_8, lk_s3_9, lk_s3_s3]
            refine lk_istore (L' := [(0, lk_vr 0 0), (1, lk_vi (nI (u))), (2, lk_vi (nI (e))), (3, lk_vi (nI (m))), (4, lk_vi (a)), (5, lk_vi (b)), (6, lk_vi (nI (k))), (7, lk_vi (((lk_dys n u e m (lk_ou (σ 2) 3 k (σ 2 3 k + 1)) (σ 3)).1 6 n)))]) dX8_pond_124 (by decide +kernel) rfl ?_
            refine lk_iload dX8_pond_126 rfl ?_
            refine lk_iload dX8_pond_128 rfl ?_
            refine lk_icmp_le (tgt := 141) dX8_pond_130 (by decide) (fun hh8 => ?_) (fun hh8 => ?_)
            ·
              refine lk_iincN (a := k) (m := 1) (L' := [(0, lk_vr 0 0), (1, lk_vi (nI (u))), (2, lk_vi (nI (e))), (3, lk_vi (nI (m))), (4, lk_vi (a)), (5, lk_vi (b)), (6, lk_vi (nI (k + 1))), (7, lk_vi (((lk_dys n u e m (lk_ou (σ 2) 3 k (σ 2 3 k + 1)) (σ 3)).1 6 n)))]) dX8_pond_141 rfl rfl (by decide +kernel) rfl ?_
              refine lk_goto (tgt := 54) dX8_pond_144 (by decide) ?_
              refine lk_sub (L' := [(0, lk_vr 0 0), (1, lk_vi (nI (u))), (2, lk_vi (nI (e))), (3, lk_vi (nI (m))), (4, lk_vi (a)), (5, lk_vi (b)), (6, lk_vi (nI (k + 1)))]) [0, 1, 2, 3, 4, 5, 6] rfl ?_
              refine ih (k + 1) _ _ _ _ _ (by omega) ?_ (by omega)
              · rw [lk_pon, hI, if_neg (fun z => absurd z.2.2 (Int32.not_lt.mpr (show _ ≤ a by assumption)))]
            ·
              refine lk_iload dX8_pond_133 rfl ?_
              refine lk_istore (L' := [(0, lk_vr 0 0), (1, lk_vi (nI (u))), (2, lk_vi (nI (e))), (3, lk_vi (nI (m))), (4, lk_vi (((lk_dys n u e m (lk_ou (σ 2) 3 k (σ 2 3 k + 1)) (σ 3)).1 6 n))), (5, lk_vi (b)), (6, lk_vi (nI (k))), (7, lk_vi (((lk_dys n u e m (lk_ou (σ 2) 3 k (σ 2 3 k + 1)) (σ 3)).1 6 n)))]) dX8_pond_135 (by decide +kernel) rfl ?_
              refine lk_iload dX8_pond_137 rfl ?_
              refine lk_istore (L' := [(0, lk_vr 0 0), (1, lk_vi (nI (u))), (2, lk_vi (nI (e))), (3, lk_vi (nI (m))), (4, lk_vi (((lk_dys n u e m (lk_ou (σ 2) 3 k (σ 2 3 k + 1)) (σ 3)).1 6 n))), (5, lk_vi (nI (k))), (6, lk_vi (nI (k))), (7, lk_vi (((lk_dys n u e m (lk_ou (σ 2) 3 k (σ 2 3 k + 1)) (σ 3)).1 6 n)))]) dX8_pond_139 (by decide +kernel) rfl ?_
              refine lk_iincN (a := k) (m := 1) (L' := [(0, lk_vr 0 0), (1, lk_vi (nI (u))), (2, lk_vi (nI (e))), (3, lk_vi (nI (m))), (4, lk_vi (((lk_dys n u e m (lk_ou (σ 2) 3 k (σ 2 3 k + 1)) (σ 3)).1 6 n))), (5, lk_vi (nI (k))), (6, lk_vi (nI (k + 1))), (7, lk_vi (((lk_dys n u e m (lk_ou (σ 2) 3 k (σ 2 3 k + 1)) (σ 3)).1 6 n)))]) dX8_pond_141 rfl rfl (by decide +kernel) rfl ?_
              refine lk_goto (tgt := 54) dX8_pond_144 (by decide) ?_
              refine lk_sub (L' := [(0, lk_vr 0 0), (1, lk_vi (nI (u))), (2, lk_vi (nI (e))), (3, lk_vi (nI (m))), (4, lk_vi (((lk_dys n u e m (lk_ou (σ 2) 3 k (σ 2 3 k + 1)) (σ 3)).1 6 n))), (5, lk_vi (nI (k))), (6, lk_vi (nI (k + 1)))]) [0, 1, 2, 3, 4, 5, 6] rfl ?_
              refine ih (k + 1) _ _ _ _ _ (by omega) ?_ (by omega)
              · rw [lk_pon, hI, if_pos ⟨Int32.not_le.mp (by assumption), by assumption, Int32.not_le.mp (by assumption)⟩]
  exact LP54 (n + 1) 0 _ _ _ _ _ (Nat.zero_le _) rfl (by omega)

set_option maxHeartbeats 1000000 in
set_option maxRecDepth 100000 in
theorem tX8_levels_bad (l : Launch) (X : lk_G) (d : Nat) (σ : lk_N) (τ : lk_T) (i : Int32) (h : i < -1) : lk_Mt l X mX8_levels (d + 1) [lk_vr 0 0, lk_vi (i)] σ τ (fun rr σ1 τ1 => rr = some (lk_vi (-1)) ∧ σ1 = σ ∧ τ1 = τ) := by
  refine lk_met (L := [(0, lk_vr 0 0), (1, lk_vi (i))]) (by decide +kernel) (Nat.le_of_ble_eq_true rfl) rfl ?_
  obtain ⟨Q, hQ⟩ : ∃ Q : lk_Q, Q = fun rr σ1 τ1 => rr = some (lk_vi (-1)) ∧ σ1 = σ ∧ τ1 = τ := ⟨_, rfl⟩
  rw [← hQ]
  refine lk_iload_n dX8_levels_0 rfl rfl ?_
  refine lk_iconst (v := (-1)) dX8_levels_1 (by decide) ?_
  refine lk_icmp_ge (tgt := 7) dX8_levels_2 (by decide) (fun hh1 => absurd hh1 (Int32.not_le.mpr h)) (fun hh1 => ?_)
  refine lk_iconst (v := (-1)) dX8_levels_5 (by decide) ?_
  refine lk_iret .int dX8_levels_6 rfl rfl ?_
  rw [hQ]
  exact ⟨by first | rfl | (simp [*]; done) | (simp_all; done) | grind, by first | rfl | (simp [*]; done), rfl⟩

set_option maxHeartbeats 1000000 in
set_option maxRecDepth 100000 in
theorem tX8_levels_ok (l : Launch) (X : lk_G) (d : Nat) (σ : lk_N) (τ : lk_T) (n : Nat) (hV : lk_cok (σ 2) n) (i : Int32) (h : -1 ≤ i) : lk_Mt l X mX8_levels (d + 1) [lk_vr 0 0, lk_vi (i)] σ τ (fun rr σ1 τ1 => rr = some (lk_vi (lk_lvs (σ 2) n i)) ∧ σ1 = σ ∧ τ1 = τ) := by
  refine lk_met (L := [(0, lk_vr 0 0), (1, lk_vi (i))]) (by decide +kernel) (Nat.le_of_ble_eq_true rfl) rfl ?_
  obtain ⟨Q, hQ⟩ : ∃ Q : lk_Q, Q = fun rr σ1 τ1 => rr = some (lk_vi (lk_lvs (σ 2) n i)) ∧ σ1 = σ ∧ τ1 = τ := ⟨_, rfl⟩
  rw [← hQ]
  obtain ⟨R, hR⟩ : ∃ R, R = lk_lvw (σ 2) n i 8 0 (lk_llo (σ 2) (-1) (n + 1)) := ⟨_, rfl⟩
  refine lk_iload_n dX8_levels_0 rfl rfl ?_
  refine lk_iconst (v := (-1)) dX8_levels_1 (by decide) ?_
  refine lk_icmp_ge (tgt := 7) dX8_levels_2 (by decide) (fun hh1 => ?_) (fun hh1 => absurd hh1 (by intro q; exact q h))
  refine lk_iconst (v := 0) dX8_levels_7 (by decide) ?_
  refine lk_istore_n (L' := [(0, lk_vr 0 0), (1, lk_vi (i)), (2, lk_vi 0)]) dX8_levels_8 rfl (by decide +kernel) rfl ?_
  refine lk_aload_n dX8_levels_9 rfl rfl ?_
  refine lk_getO (f := 0) (o' := 2) dX8_levels_10 rfl fX8_14 (by decide) (by decide) rfl ?_
  refine lk_iconst (v := (-1)) dX8_levels_13 (by decide) ?_
  refine lk_callV (o := 2) (as := [lk_vi (-1)]) (S := []) dX8_levels_14 rfl vX0_leastLevelOver rfl lX8_325 rfl rfl (Nat.le_of_ble_eq_true rfl) (tX0_leastLevelOver l X d σ τ (c := 2) (b := (-1)) (hc := rfl) (n := n) (hn := hV.1) (hn6 := hV.2.2.1)) ?_
  refine lk_k3 ?_
  refine lk_cast (pc' := 17) (S' := [lk_vi (lk_llo (σ 2) (-1) (n + 1))]) rfl rfl rfl ?_
  refine lk_istore_n (L' := [(0, lk_vr 0 0), (1, lk_vi (i)), (2, lk_vi 0), (3, lk_vi (lk_llo (σ 2) (-1) (n + 1)))]) dX8_levels_17 rfl (by decide +kernel) rfl ?_
  have LP18 : ∀ (fu : Nat) (t : Nat) (y : Int32), t ≤ 7 → R = lk_lvw (σ 2) n i (8 - t) t y → 8 - t < fu → lk_W l X mX8_levels (d + 1) 18 [(0, lk_vr 0 0), (1, lk_vi (i)), (2, lk_vi (nI (t))), (3, lk_vi (y))] [] σ τ Q := by
    intro fu
    induction fu with
    | zero => intro t y ht hI hfu; exact absurd hfu (by omega)
    | succ fu ih =>
      intro t y ht hI hfu
      refine lk_iload_n dX8_levels_18 rfl rfl ?_
      refine lk_if_lt (tgt := 50) dX8_levels_19 (by decide) (fun hh2 => ?_) (fun hh2 => ?_)
      ·
        refine lk_iload_n dX8_levels_50 rfl rfl ?_
        refine lk_iconst (v := (-1)) dX8_levels_51 (by decide) ?_
        refine lk_icmp_ne (tgt := 59) dX8_levels_52 (by decide) (fun hh3 => ?_) (fun hh3 => ?_)
        ·
          refine lk_bipush (v := (-2)) dX8_levels_59 (by decide) ?_
          refine lk_iret .int dX8_levels_61 rfl rfl ?_
          rw [hQ]
          rw [show 8 - t = (8 - (t + 1)) + 1 by omega, lk_lvw, if_pos (by first | exact Or.inl (by assumption) | exact Or.inr (by omega))] at hI
          refine ⟨?_, rfl, rfl⟩
          unfold lk_lvs
          rw [← hR, hI]
          simp only []
          rw [if_neg (by assumption)]
        ·
          refine lk_iload_n dX8_levels_55 rfl rfl ?_
          refine lk_goto (tgt := 61) dX8_levels_56 (by decide) ?_
          refine lk_iret .int dX8_levels_61 rfl rfl ?_
          rw [hQ]
          rw [show 8 - t = (8 - (t + 1)) + 1 by omega, lk_lvw, if_pos (by first | exact Or.inl (by assumption) | exact Or.inr (by omega))] at hI
          refine ⟨?_, rfl, rfl⟩
          unfold lk_lvs
          rw [← hR, hI]
          simp only []
          rw [if_pos (by assumption)]
      ·
        refine lk_iload_n dX8_levels_22 rfl rfl ?_
        refine lk_bipush (v := 6) dX8_levels_23 (by decide) ?_
        refine lk_icmp_gtN (a := t) (b := 6) (tgt := 50) dX8_levels_25 (by decide) (by omega) (by omega) (fun hh4 => ?_) (fun hh4 => ?_)
        ·
          refine lk_iload_n dX8_levels_50 rfl rfl ?_
          refine lk_iconst (v := (-1)) dX8_levels_51 (by decide) ?_
          refine lk_icmp_ne (tgt := 59) dX8_levels_52 (by decide) (fun hh5 => ?_) (fun hh5 => ?_)
          ·
            refine lk_bipush (v := (-2)) dX8_levels_59 (by decide) ?_
            refine lk_iret .int dX8_levels_61 rfl rfl ?_
            rw [hQ]
            rw [show 8 - t = (8 - (t + 1)) + 1 by omega, lk_lvw, if_pos (by first | exact Or.inl (by assumption) | exact Or.inr (by omega))] at hI
            refine ⟨?_, rfl, rfl⟩
            unfold lk_lvs
            rw [← hR, hI]
            simp only []
            rw [if_neg (by assumption)]
          ·
            refine lk_iload_n dX8_levels_55 rfl rfl ?_
            refine lk_goto (tgt := 61) dX8_levels_56 (by decide) ?_
            refine lk_iret .int dX8_levels_61 rfl rfl ?_
            rw [hQ]
            rw [show 8 - t = (8 - (t + 1)) + 1 by omega, lk_lvw, if_pos (by first | exact Or.inl (by assumption) | exact Or.inr (by omega))] at hI
            refine ⟨?_, rfl, rfl⟩
            unfold lk_lvs
            rw [← hR, hI]
            simp only []
            rw [if_pos (by assumption)]
        ·
          refine lk_iload_n dX8_levels_28 rfl rfl ?_
          refine lk_iload_n dX8_levels_29 rfl rfl ?_
          refine lk_icmp_ne (tgt := 35) dX8_levels_30 (by decide) (fun hh6 => ?_) (fun hh6 => ?_)
          ·
            refine lk_iincN (a := t) (m := 1) (L' := [(0, lk_vr 0 0), (1, lk_vi (i)), (2, lk_vi (nI (t + 1))), (3, lk_vi (y))]) dX8_levels_35 rfl rfl (by decide +kernel) rfl ?_
            refine lk_aload_n dX8_levels_38 rfl rfl ?_
            refine lk_getO (f := 0) (o' := 2) dX8_levels_39 rfl fX8_14 (by decide) (by decide) rfl ?_
            refine lk_iload_n dX8_levels_42 rfl rfl ?_
            refine lk_callV (o := 2) (as := [lk_vi (y)]) (S := []) dX8_levels_43 rfl vX0_leastLevelOver rfl lX8_325 rfl rfl (Nat.le_of_ble_eq_true rfl) (tX0_leastLevelOver l X d σ τ (c := 2) (b := (y)) (hc := rfl) (n := n) (hn := hV.1) (hn6 := hV.2.2.1)) ?_
            refine lk_k3 ?_
            refine lk_cast (pc' := 46) (S' := [lk_vi (lk_llo (σ 2) (y) (n + 1))]) rfl rfl rfl ?_
            refine lk_istore_n (L' := [(0, lk_vr 0 0), (1, lk_vi (i)), (2, lk_vi (nI (t + 1))), (3, lk_vi (lk_llo (σ 2) (y) (n + 1)))]) dX8_levels_46 rfl (by decide +kernel) rfl ?_
            refine lk_goto (tgt := 18) dX8_levels_47 (by decide) ?_
            rw [show 8 - t = (8 - (t + 1)) + 1 by omega, lk_lvw, if_neg (by rintro (z | z) <;> first | contradiction | omega), if_neg (by assumption)] at hI
            exact ih (t + 1) _ (by omega) hI (by omega)
          ·
            refine lk_iload_n dX8_levels_33 rfl rfl ?_
            refine lk_iret .int dX8_levels_34 rfl rfl ?_
            rw [hQ]
            rw [show 8 - t = (8 - (t + 1)) + 1 by omega, lk_lvw, if_neg (by rintro (z | z) <;> first | contradiction | omega), if_pos (by assumption)] at hI
            refine ⟨?_, rfl, rfl⟩
            unfold lk_lvs
            rw [← hR, hI]
  exact LP18 9 0 _ (by omega) hR (by omega)

set_option maxHeartbeats 1000000 in
set_option maxRecDepth 100000 in
theorem tX8_tally_bad (l : Launch) (X : lk_G) (d : Nat) (σ : lk_N) (τ : lk_T) (i w : Int32) (h : w < 0 ∨ 2 < w) : lk_Mt l X mX8_tally (d + 1) [lk_vr 0 0, lk_vi (i), lk_vi (w)] σ τ (fun rr σ1 τ1 => rr = some (lk_vi (-2000000)) ∧ σ1 = σ ∧ τ1 = τ) := by
  refine lk_met (L := [(0, lk_vr 0 0), (1, lk_vi (i)), (2, lk_vi (w))]) (by decide +kernel) (Nat.le_of_ble_eq_true rfl) rfl ?_
  obtain ⟨Q, hQ⟩ : ∃ Q : lk_Q, Q = fun rr σ1 τ1 => rr = some (lk_vi (-2000000)) ∧ σ1 = σ ∧ τ1 = τ := ⟨_, rfl⟩
  rw [← hQ]
  refine lk_iload_n dX8_tally_0 rfl rfl ?_
  refine lk_if_lt (tgt := 9) dX8_tally_1 (by decide) (fun hh1 => ?_) (fun hh1 => ?_)
  ·
    refine lk_ldc dX8_tally_9 kX8_186 ?_
    refine lk_iret .int dX8_tally_11 rfl rfl ?_
    rw [hQ]
    exact ⟨by first | rfl | (simp [*]; done) | (simp_all; done) | grind, by first | rfl | (simp [*]; done), rfl⟩
  ·
    refine lk_iload_n dX8_tally_4 rfl rfl ?_
    refine lk_iconst (v := 2) dX8_tally_5 (by decide) ?_
    refine lk_icmp_le (tgt := 12) dX8_tally_6 (by decide) (fun hh2 => ?_) (fun hh2 => ?_)
    ·
      exact absurd h (by rintro (z | z) <;> first | contradiction | exact absurd z (Int32.not_lt.mpr (by assumption)))
    ·
      refine lk_ldc dX8_tally_9 kX8_186 ?_
      refine lk_iret .int dX8_tally_11 rfl rfl ?_
      rw [hQ]
      exact ⟨by first | rfl | (simp [*]; done) | (simp_all; done) | grind, by first | rfl | (simp [*]; done), rfl⟩

set_option maxHeartbeats 1000000 in
set_option maxRecDepth 100000 in
theorem tX8_tally_2 (l : Launch) (X : lk_G) (d : Nat) (σ : lk_N) (τ : lk_T) (i : Int32) : lk_Mt l X mX8_tally (d + 1) [lk_vr 0 0, lk_vi (i), lk_vi 2] σ τ (fun rr σ1 τ1 => rr = some (lk_vi (lk_tup (σ 3) i)) ∧ σ1 = σ ∧ τ1 = τ) := by
  refine lk_met (L := [(0, lk_vr 0 0), (1, lk_vi (i)), (2, lk_vi 2)]) (by decide +kernel) (Nat.le_of_ble_eq_true rfl) rfl ?_
  obtain ⟨Q, hQ⟩ : ∃ Q : lk_Q, Q = fun rr σ1 τ1 => rr = some (lk_vi (lk_tup (σ 3) i)) ∧ σ1 = σ ∧ τ1 = τ := ⟨_, rfl⟩
  rw [← hQ]
  refine lk_iload_n dX8_tally_0 rfl rfl ?_
  refine lk_if_lt (tgt := 9) dX8_tally_1 (by decide) (fun hh1 => absurd hh1 (by decide)) (fun hh1 => ?_)
  refine lk_iload_n dX8_tally_4 rfl rfl ?_
  refine lk_iconst (v := 2) dX8_tally_5 (by decide) ?_
  refine lk_icmp_leN (a := 2) (b := 2) (tgt := 12) dX8_tally_6 (by decide) (by omega) (by omega) (fun hh2 => ?_) (fun hh2 => absurd hh2 (by decide))
  refine lk_iload_n dX8_tally_12 rfl rfl ?_
  refine lk_iconst (v := 2) dX8_tally_13 (by decide) ?_
  refine lk_icmp_neN (a := 2) (b := 2) (tgt := 29) dX8_tally_14 (by decide) (by omega) (by omega) (fun hh3 => absurd hh3 (by decide)) (fun hh3 => ?_)
  refine lk_aload_n dX8_tally_17 rfl rfl ?_
  refine lk_getO (f := 0) (o' := 2) dX8_tally_18 rfl fX8_14 (by decide) (by decide) rfl ?_
  refine lk_getO (f := 10) (o' := 3) dX8_tally_21 rfl fX8_328 (by decide) (by decide) rfl ?_
  refine lk_iload_n dX8_tally_24 rfl rfl ?_
  refine lk_callV (o := 3) (as := [lk_vi (i)]) (S := []) dX8_tally_25 rfl vX5_upTo rfl lX8_332 rfl rfl (Nat.le_of_ble_eq_true rfl) (tX5_upTo l X d σ τ (t := 3) (s := (i)) (ht := rfl)) ?_
  refine lk_k3 ?_
  refine lk_cast (pc' := 28) (S' := [lk_vi (lk_tup (σ 3) (i))]) rfl rfl rfl ?_
  refine lk_iret .int dX8_tally_28 rfl rfl ?_
  rw [hQ]
  exact ⟨by first | rfl | (simp [*]; done) | (simp_all; done) | grind, by first | rfl | (simp [*]; done), rfl⟩

set_option maxHeartbeats 1000000 in
set_option maxRecDepth 100000 in
theorem tX8_tally_0 (l : Launch) (X : lk_G) (d : Nat) (σ : lk_N) (τ : lk_T) (i : Int32) : lk_Mt l X mX8_tally (d + 1) [lk_vr 0 0, lk_vi (i), lk_vi 0] σ τ (fun rr σ1 τ1 => rr = some (lk_vi (if i = -1 then nI (lk_ct (fun k => decide (0 < σ 3 0 k)) 118) else lk_trw (σ 3) i 0)) ∧ σ1 = σ ∧ τ1 = τ) := by
  refine lk_met (L := [(0, lk_vr 0 0), (1, lk_vi (i)), (2, lk_vi 0)]) (by decide +kernel) (Nat.le_of_ble_eq_true rfl) rfl ?_
  obtain ⟨Q, hQ⟩ : ∃ Q : lk_Q, Q = fun rr σ1 τ1 => rr = some (lk_vi (if i = -1 then nI (lk_ct (fun k => decide (0 < σ 3 0 k)) 118) else lk_trw (σ 3) i 0)) ∧ σ1 = σ ∧ τ1 = τ := ⟨_, rfl⟩
  rw [← hQ]
  refine lk_iload_n dX8_tally_0 rfl rfl ?_
  refine lk_if_lt (tgt := 9) dX8_tally_1 (by decide) (fun hh1 => absurd hh1 (by decide)) (fun hh1 => ?_)
  refine lk_iload_n dX8_tally_4 rfl rfl ?_
  refine lk_iconst (v := 2) dX8_tally_5 (by decide) ?_
  refine lk_icmp_leN (a := 0) (b := 2) (tgt := 12) dX8_tally_6 (by decide) (by omega) (by omega) (fun hh2 => ?_) (fun hh2 => absurd hh2 (by decide))
  refine lk_iload_n dX8_tally_12 rfl rfl ?_
  refine lk_iconst (v := 2) dX8_tally_13 (by decide) ?_
  refine lk_icmp_neN (a := 0) (b := 2) (tgt := 29) dX8_tally_14 (by decide) (by omega) (by omega) (fun hh3 => ?_) (fun hh3 => absurd hh3 (by decide))
  refine lk_iload_n dX8_tally_29 rfl rfl ?_
  refine lk_iconst (v := (-1)) dX8_tally_30 (by decide) ?_
  refine lk_icmp_ne (tgt := 47) dX8_tally_31 (by decide) (fun hh4 => ?_) (fun hh4 => ?_)
  ·
    refine lk_aload_n dX8_tally_47 rfl rfl ?_
    refine lk_getO (f := 0) (o' := 2) dX8_tally_48 rfl fX8_14 (by decide) (by decide) rfl ?_
    refine lk_getO (f := 10) (o' := 3) dX8_tally_51 rfl fX8_328 (by decide) (by decide) rfl ?_
    refine lk_iload_n dX8_tally_54 rfl rfl ?_
    refine lk_iload_n dX8_tally_55 rfl rfl ?_
    refine lk_iconst (v := 1) dX8_tally_56 (by decide) ?_
    refine lk_icmp_neN (a := 0) (b := 1) (tgt := 64) dX8_tally_57 (by decide) (by omega) (by omega) (fun hh5 => ?_) (fun hh5 => absurd hh5 (by decide))
    refine lk_iconst (v := 0) dX8_tally_64 (by decide) ?_
    refine lk_callV (o := 3) (as := [lk_vi (i), lk_vi 0]) (S := []) dX8_tally_65 rfl vX5_row rfl lX8_340 rfl rfl (Nat.le_of_ble_eq_true rfl) (tX5_row l X d σ τ (t := 3) (i := (i)) (u := 0) (ht := rfl)) ?_
    refine lk_k3 ?_
    refine lk_cast (pc' := 68) (S' := [lk_vi (lk_trw (σ 3) (i) 0)]) rfl rfl rfl ?_
    refine lk_iret .int dX8_tally_68 rfl rfl ?_
    rw [hQ]
    first | rw [if_pos (by assumption)] | rw [if_neg (by assumption)]
    exact ⟨rfl, rfl, rfl⟩
  ·
    refine lk_aload_n dX8_tally_34 rfl rfl ?_
    refine lk_getO (f := 0) (o' := 2) dX8_tally_35 rfl fX8_14 (by decide) (by decide) rfl ?_
    refine lk_getO (f := 10) (o' := 3) dX8_tally_38 rfl fX8_328 (by decide) (by decide) rfl ?_
    refine lk_callV (o := 3) (as := []) (S := []) dX8_tally_41 rfl vX5_unlike rfl lX8_337 rfl rfl (Nat.le_of_ble_eq_true rfl) (tX5_unlike l X d σ τ (t := 3) (ht := rfl)) ?_
    refine lk_k3 ?_
    refine lk_cast (pc' := 44) (S' := [lk_vi (nI (lk_ct (fun k => decide (0 < σ 3 0 k)) 118))]) rfl rfl rfl ?_
    refine lk_goto (tgt := 68) dX8_tally_44 (by decide) ?_
    refine lk_iret .int dX8_tally_68 rfl rfl ?_
    rw [hQ]
    first | rw [if_pos (by assumption)] | rw [if_neg (by assumption)]
    exact ⟨rfl, rfl, rfl⟩

set_option maxHeartbeats 1000000 in
set_option maxRecDepth 100000 in
theorem tX8_tally_1 (l : Launch) (X : lk_G) (d : Nat) (σ : lk_N) (τ : lk_T) (i : Int32) : lk_Mt l X mX8_tally (d + 1) [lk_vr 0 0, lk_vi (i), lk_vi 1] σ τ (fun rr σ1 τ1 => rr = some (lk_vi (if i = -1 then nI (lk_ct (fun k => decide (0 < σ 3 0 k)) 118) else lk_trw (σ 3) i 1)) ∧ σ1 = σ ∧ τ1 = τ) := by
  refine lk_met (L := [(0, lk_vr 0 0), (1, lk_vi (i)), (2, lk_vi 1)]) (by decide +kernel) (Nat.le_of_ble_eq_true rfl) rfl ?_
  obtain ⟨Q, hQ⟩ : ∃ Q : lk_Q, Q = fun rr σ1 τ1 => rr = some (lk_vi (if i = -1 then nI (lk_ct (fun k => decide (0 < σ 3 0 k)) 118) else lk_trw (σ 3) i 1)) ∧ σ1 = σ ∧ τ1 = τ := ⟨_, rfl⟩
  rw [← hQ]
  refine lk_iload_n dX8_tally_0 rfl rfl ?_
  refine lk_if_lt (tgt := 9) dX8_tally_1 (by decide) (fun hh1 => absurd hh1 (by decide)) (fun hh1 => ?_)
  refine lk_iload_n dX8_tally_4 rfl rfl ?_
  refine lk_iconst (v := 2) dX8_tally_5 (by decide) ?_
  refine lk_icmp_leN (a := 1) (b := 2) (tgt := 12) dX8_tally_6 (by decide) (by omega) (by omega) (fun hh2 => ?_) (fun hh2 => absurd hh2 (by decide))
  refine lk_iload_n dX8_tally_12 rfl rfl ?_
  refine lk_iconst (v := 2) dX8_tally_13 (by decide) ?_
  refine lk_icmp_neN (a := 1) (b := 2) (tgt := 29) dX8_tally_14 (by decide) (by omega) (by omega) (fun hh3 => ?_) (fun hh3 => absurd hh3 (by decide))
  refine lk_iload_n dX8_tally_29 rfl rfl ?_
  refine lk_iconst (v := (-1)) dX8_tally_30 (by decide) ?_
  refine lk_icmp_ne (tgt := 47) dX8_tally_31 (by decide) (fun hh4 => ?_) (fun hh4 => ?_)
  ·
    refine lk_aload_n dX8_tally_47 rfl rfl ?_
    refine lk_getO (f := 0) (o' := 2) dX8_tally_48 rfl fX8_14 (by decide) (by decide) rfl ?_
    refine lk_getO (f := 10) (o' := 3) dX8_tally_51 rfl fX8_328 (by decide) (by decide) rfl ?_
    refine lk_iload_n dX8_tally_54 rfl rfl ?_
    refine lk_iload_n dX8_tally_55 rfl rfl ?_
    refine lk_iconst (v := 1) dX8_tally_56 (by decide) ?_
    refine lk_icmp_neN (a := 1) (b := 1) (tgt := 64) dX8_tally_57 (by decide) (by omega) (by omega) (fun hh5 => absurd hh5 (by decide)) (fun hh5 => ?_)
    refine lk_iconst (v := 1) dX8_tally_60 (by decide) ?_
    refine lk_goto (tgt := 65) dX8_tally_61 (by decide) ?_
    refine lk_callV (o := 3) (as := [lk_vi (i), lk_vi 1]) (S := []) dX8_tally_65 rfl vX5_row rfl lX8_340 rfl rfl (Nat.le_of_ble_eq_true rfl) (tX5_row l X d σ τ (t := 3) (i := (i)) (u := 1) (ht := rfl)) ?_
    refine lk_k3 ?_
    refine lk_cast (pc' := 68) (S' := [lk_vi (lk_trw (σ 3) (i) 1)]) rfl rfl rfl ?_
    refine lk_iret .int dX8_tally_68 rfl rfl ?_
    rw [hQ]
    first | rw [if_pos (by assumption)] | rw [if_neg (by assumption)]
    exact ⟨rfl, rfl, rfl⟩
  ·
    refine lk_aload_n dX8_tally_34 rfl rfl ?_
    refine lk_getO (f := 0) (o' := 2) dX8_tally_35 rfl fX8_14 (by decide) (by decide) rfl ?_
    refine lk_getO (f := 10) (o' := 3) dX8_tally_38 rfl fX8_328 (by decide) (by decide) rfl ?_
    refine lk_callV (o := 3) (as := []) (S := []) dX8_tally_41 rfl vX5_unlike rfl lX8_337 rfl rfl (Nat.le_of_ble_eq_true rfl) (tX5_unlike l X d σ τ (t := 3) (ht := rfl)) ?_
    refine lk_k3 ?_
    refine lk_cast (pc' := 44) (S' := [lk_vi (nI (lk_ct (fun k => decide (0 < σ 3 0 k)) 118))]) rfl rfl rfl ?_
    refine lk_goto (tgt := 68) dX8_tally_44 (by decide) ?_
    refine lk_iret .int dX8_tally_68 rfl rfl ?_
    rw [hQ]
    first | rw [if_pos (by assumption)] | rw [if_neg (by assumption)]
    exact ⟨rfl, rfl, rfl⟩

set_option maxHeartbeats 1000000 in
set_option maxRecDepth 100000 in
theorem tX8_count_0 (l : Launch) (X : lk_G) (d : Nat) (σ : lk_N) (τ : lk_T)  : lk_Mt l X mX8_count (d + 1) [lk_vr 0 0, lk_vi 0] σ τ (fun rr σ1 τ1 => rr = some (lk_vi (σ 2 0 0)) ∧ σ1 = σ ∧ τ1 = τ) := by
  refine lk_met (L := [(0, lk_vr 0 0), (1, lk_vi 0)]) (by decide +kernel) (Nat.le_of_ble_eq_true rfl) rfl ?_
  obtain ⟨Q, hQ⟩ : ∃ Q : lk_Q, Q = fun rr σ1 τ1 => rr = some (lk_vi (σ 2 0 0)) ∧ σ1 = σ ∧ τ1 = τ := ⟨_, rfl⟩
  rw [← hQ]
  refine lk_iload_n dX8_count_0 rfl rfl ?_
  refine lk_tableIn (off := 39) (tgt := 40) dX8_count_1 (by decide) (by decide) rfl (by decide) ?_
  refine lk_aload_n dX8_count_40 rfl rfl ?_
  refine lk_getO (f := 0) (o' := 2) dX8_count_41 rfl fX8_14 (by decide) (by decide) rfl ?_
  refine lk_getI (f := 0) dX8_count_44 rfl fX8_72 (by decide) (by decide) ?_
  refine lk_iret .int dX8_count_47 rfl rfl ?_
  rw [hQ]
  exact ⟨by first | rfl | (simp [*]; done) | (simp_all; done) | grind, by first | rfl | (simp [*]; done), rfl⟩

set_option maxHeartbeats 1000000 in
set_option maxRecDepth 100000 in
theorem tX8_count_1 (l : Launch) (X : lk_G) (d : Nat) (σ : lk_N) (τ : lk_T)  : lk_Mt l X mX8_count (d + 1) [lk_vr 0 0, lk_vi 1] σ τ (fun rr σ1 τ1 => rr = some (lk_vi (σ 11 5 0)) ∧ σ1 = σ ∧ τ1 = τ) := by
  refine lk_met (L := [(0, lk_vr 0 0), (1, lk_vi 1)]) (by decide +kernel) (Nat.le_of_ble_eq_true rfl) rfl ?_
  obtain ⟨Q, hQ⟩ : ∃ Q : lk_Q, Q = fun rr σ1 τ1 => rr = some (lk_vi (σ 11 5 0)) ∧ σ1 = σ ∧ τ1 = τ := ⟨_, rfl⟩
  rw [← hQ]
  refine lk_iload_n dX8_count_0 rfl rfl ?_
  refine lk_tableIn (off := 47) (tgt := 48) dX8_count_1 (by decide) (by decide) rfl (by decide) ?_
  refine lk_aload_n dX8_count_48 rfl rfl ?_
  refine lk_getO (f := 1) (o' := 11) dX8_count_49 rfl fX8_21 (by decide) (by decide) rfl ?_
  refine lk_getI (f := 5) dX8_count_52 rfl fX8_76 (by decide) (by decide) ?_
  refine lk_iret .int dX8_count_55 rfl rfl ?_
  rw [hQ]
  exact ⟨by first | rfl | (simp [*]; done) | (simp_all; done) | grind, by first | rfl | (simp [*]; done), rfl⟩

set_option maxHeartbeats 1000000 in
set_option maxRecDepth 100000 in
theorem tX8_count_2 (l : Launch) (X : lk_G) (d : Nat) (σ : lk_N) (τ : lk_T)  : lk_Mt l X mX8_count (d + 1) [lk_vr 0 0, lk_vi 2] σ τ (fun rr σ1 τ1 => rr = some (lk_vi (σ 14 1 0)) ∧ σ1 = σ ∧ τ1 = τ) := by
  refine lk_met (L := [(0, lk_vr 0 0), (1, lk_vi 2)]) (by decide +kernel) (Nat.le_of_ble_eq_true rfl) rfl ?_
  obtain ⟨Q, hQ⟩ : ∃ Q : lk_Q, Q = fun rr σ1 τ1 => rr = some (lk_vi (σ 14 1 0)) ∧ σ1 = σ ∧ τ1 = τ := ⟨_, rfl⟩
  rw [← hQ]
  refine lk_iload_n dX8_count_0 rfl rfl ?_
  refine lk_tableIn (off := 55) (tgt := 56) dX8_count_1 (by decide) (by decide) rfl (by decide) ?_
  refine lk_aload_n dX8_count_56 rfl rfl ?_
  refine lk_getO (f := 2) (o' := 14) dX8_count_57 rfl fX8_28 (by decide) (by decide) rfl ?_
  refine lk_getI (f := 1) dX8_count_60 rfl fX8_133 (by decide) (by decide) ?_
  refine lk_iret .int dX8_count_63 rfl rfl ?_
  rw [hQ]
  exact ⟨by first | rfl | (simp [*]; done) | (simp_all; done) | grind, by first | rfl | (simp [*]; done), rfl⟩

set_option maxHeartbeats 1000000 in
set_option maxRecDepth 100000 in
theorem tX8_count_3 (l : Launch) (X : lk_G) (d : Nat) (σ : lk_N) (τ : lk_T)  : lk_Mt l X mX8_count (d + 1) [lk_vr 0 0, lk_vi 3] σ τ (fun rr σ1 τ1 => rr = some (lk_vi (lk_tup (σ 3) 108)) ∧ σ1 = σ ∧ τ1 = τ) := by
  refine lk_met (L := [(0, lk_vr 0 0), (1, lk_vi 3)]) (by decide +kernel) (Nat.le_of_ble_eq_true rfl) rfl ?_
  obtain ⟨Q, hQ⟩ : ∃ Q : lk_Q, Q = fun rr σ1 τ1 => rr = some (lk_vi (lk_tup (σ 3) 108)) ∧ σ1 = σ ∧ τ1 = τ := ⟨_, rfl⟩
  rw [← hQ]
  refine lk_iload_n dX8_count_0 rfl rfl ?_
  refine lk_tableIn (off := 63) (tgt := 64) dX8_count_1 (by decide) (by decide) rfl (by decide) ?_
  refine lk_aload_n dX8_count_64 rfl rfl ?_
  refine lk_getO (f := 0) (o' := 2) dX8_count_65 rfl fX8_14 (by decide) (by decide) rfl ?_
  refine lk_getO (f := 10) (o' := 3) dX8_count_68 rfl fX8_328 (by decide) (by decide) rfl ?_
  refine lk_bipush (v := 108) dX8_count_71 (by decide) ?_
  refine lk_callV (o := 3) (as := [lk_vi 108]) (S := []) dX8_count_73 rfl vX5_upTo rfl lX8_332 rfl rfl (Nat.le_of_ble_eq_true rfl) (tX5_upTo l X d σ τ (t := 3) (s := 108) (ht := rfl)) ?_
  refine lk_k3 ?_
  refine lk_cast (pc' := 76) (S' := [lk_vi (lk_tup (σ 3) 108)]) rfl rfl rfl ?_
  refine lk_iret .int dX8_count_76 rfl rfl ?_
  rw [hQ]
  exact ⟨by first | rfl | (simp [*]; done) | (simp_all; done) | grind, by first | rfl | (simp [*]; done), rfl⟩

set_option maxHeartbeats 1000000 in
set_option maxRecDepth 100000 in
theorem tX8_count_4 (l : Launch) (X : lk_G) (d : Nat) (σ : lk_N) (τ : lk_T)  : lk_Mt l X mX8_count (d + 1) [lk_vr 0 0, lk_vi 4] σ τ (fun rr σ1 τ1 => rr = some (lk_vi (σ 2 1 0)) ∧ σ1 = σ ∧ τ1 = τ) := by
  refine lk_met (L := [(0, lk_vr 0 0), (1, lk_vi 4)]) (by decide +kernel) (Nat.le_of_ble_eq_true rfl) rfl ?_
  obtain ⟨Q, hQ⟩ : ∃ Q : lk_Q, Q = fun rr σ1 τ1 => rr = some (lk_vi (σ 2 1 0)) ∧ σ1 = σ ∧ τ1 = τ := ⟨_, rfl⟩
  rw [← hQ]
  refine lk_iload_n dX8_count_0 rfl rfl ?_
  refine lk_tableIn (off := 76) (tgt := 77) dX8_count_1 (by decide) (by decide) rfl (by decide) ?_
  refine lk_aload_n dX8_count_77 rfl rfl ?_
  refine lk_getO (f := 0) (o' := 2) dX8_count_78 rfl fX8_14 (by decide) (by decide) rfl ?_
  refine lk_getI (f := 1) dX8_count_81 rfl fX8_127 (by decide) (by decide) ?_
  refine lk_iret .int dX8_count_84 rfl rfl ?_
  rw [hQ]
  exact ⟨by first | rfl | (simp [*]; done) | (simp_all; done) | grind, by first | rfl | (simp [*]; done), rfl⟩

set_option maxHeartbeats 1000000 in
set_option maxRecDepth 100000 in
theorem tX8_count_5 (l : Launch) (X : lk_G) (d : Nat) (σ : lk_N) (τ : lk_T) (n : Nat) (hV : lk_cok (σ 2) n) : lk_Mt l X mX8_count (d + 1) [lk_vr 0 0, lk_vi 5] σ τ (fun rr σ1 τ1 => rr = some (lk_vi (nI (lk_ct (fun k => decide (¬ σ 2 5 k = 0)) n))) ∧ σ1 = σ ∧ τ1 = τ) := by
  refine lk_met (L := [(0, lk_vr 0 0), (1, lk_vi 5)]) (by decide +kernel) (Nat.le_of_ble_eq_true rfl) rfl ?_
  obtain ⟨Q, hQ⟩ : ∃ Q : lk_Q, Q = fun rr σ1 τ1 => rr = some (lk_vi (nI (lk_ct (fun k => decide (¬ σ 2 5 k = 0)) n))) ∧ σ1 = σ ∧ τ1 = τ := ⟨_, rfl⟩
  rw [← hQ]
  refine lk_iload_n dX8_count_0 rfl rfl ?_
  refine lk_tableIn (off := 84) (tgt := 85) dX8_count_1 (by decide) (by decide) rfl (by decide) ?_
  refine lk_aload_n dX8_count_85 rfl rfl ?_
  refine lk_getO (f := 0) (o' := 2) dX8_count_86 rfl fX8_14 (by decide) (by decide) rfl ?_
  refine lk_callV (o := 2) (as := []) (S := []) dX8_count_89 rfl vX0_fullLocks rfl lX8_357 rfl rfl (Nat.le_of_ble_eq_true rfl) (tX0_fullLocks l X d σ τ (c := 2) (hc := rfl) (n := n) (hn := hV.1) (hn6 := hV.2.2.1)) ?_
  refine lk_k3 ?_
  refine lk_cast (pc' := 92) (S' := [lk_vi (nI (lk_ct (fun k => decide (¬ σ 2 5 k = 0)) n))]) rfl rfl rfl ?_
  refine lk_iret .int dX8_count_92 rfl rfl ?_
  rw [hQ]
  exact ⟨by first | rfl | (simp [*]; done) | (simp_all; done) | grind, by first | rfl | (simp [*]; done), rfl⟩

set_option maxHeartbeats 1000000 in
set_option maxRecDepth 100000 in
theorem tX8_count_bad (l : Launch) (X : lk_G) (d : Nat) (σ : lk_N) (τ : lk_T) (w : Int32) (h : w.toInt < 0 ∨ 5 < w.toInt) : lk_Mt l X mX8_count (d + 1) [lk_vr 0 0, lk_vi (w)] σ τ (fun rr σ1 τ1 => rr = some (lk_vi (-1)) ∧ σ1 = σ ∧ τ1 = τ) := by
  refine lk_met (L := [(0, lk_vr 0 0), (1, lk_vi (w))]) (by decide +kernel) (Nat.le_of_ble_eq_true rfl) rfl ?_
  obtain ⟨Q, hQ⟩ : ∃ Q : lk_Q, Q = fun rr σ1 τ1 => rr = some (lk_vi (-1)) ∧ σ1 = σ ∧ τ1 = τ := ⟨_, rfl⟩
  rw [← hQ]
  refine lk_iload_n dX8_count_0 rfl rfl ?_
  refine lk_tableOut (tgt := 93) dX8_count_1 h (by decide) ?_
  refine lk_iconst (v := (-1)) dX8_count_93 (by decide) ?_
  refine lk_iret .int dX8_count_94 rfl rfl ?_
  rw [hQ]
  exact ⟨by first | rfl | (simp [*]; done) | (simp_all; done) | grind, by first | rfl | (simp [*]; done), rfl⟩

set_option maxHeartbeats 1000000 in
set_option maxRecDepth 100000 in
theorem tX8_boat_out (l : Launch) (X : lk_G) (d : Nat) (σ : lk_N) (τ : lk_T) (b : Int32) (hb : b < 0 ∨ σ 11 5 0 ≤ b) (w : Int32) : lk_Mt l X mX8_boat (d + 4) [lk_vr 0 0, lk_vi (b), lk_vi (w)] σ τ (fun rr σ1 τ1 => rr = some (lk_vi (-1)) ∧ σ1 = σ ∧ τ1 = τ) := by
  refine lk_met (L := [(0, lk_vr 0 0), (1, lk_vi (b)), (2, lk_vi (w))]) (by decide +kernel) (Nat.le_of_ble_eq_true rfl) rfl ?_
  obtain ⟨Q, hQ⟩ : ∃ Q : lk_Q, Q = fun rr σ1 τ1 => rr = some (lk_vi (-1)) ∧ σ1 = σ ∧ τ1 = τ := ⟨_, rfl⟩
  rw [← hQ]
  refine lk_aload_n dX8_boat_0 rfl rfl ?_
  refine lk_getO (f := 1) (o' := 11) dX8_boat_1 rfl fX8_21 (by decide) (by decide) rfl ?_
  refine lk_iload_n dX8_boat_4 rfl rfl ?_
  refine lk_callV (o := 11) (as := [lk_vi (b)]) (S := []) dX8_boat_5 rfl vX2_has rfl lX8_164 rfl rfl (Nat.le_of_ble_eq_true rfl) (tX2_has_out l X (d + 3) σ τ (f := 11) (b := (b)) (hf := rfl) (hb := hb)) ?_
  refine lk_k3 ?_
  refine lk_cast (pc' := 8) (S' := [lk_vi 0]) rfl rfl rfl ?_
  refine lk_if_eq (tgt := 26) dX8_boat_8 (by decide) (fun hh1 => ?_) (fun hh1 => absurd hh1 (by decide))
  refine lk_iconst (v := (-1)) dX8_boat_26 (by decide) ?_
  refine lk_iret .int dX8_boat_27 rfl rfl ?_
  rw [hQ]
  exact ⟨by first | rfl | (simp [*]; done) | (simp_all; done) | grind, by first | rfl | (simp [*]; done), rfl⟩

set_option maxHeartbeats 1000000 in
set_option maxRecDepth 100000 in
theorem tX8_boat_bad (l : Launch) (X : lk_G) (d : Nat) (σ : lk_N) (τ : lk_T) (nf b : Nat) (hn : σ 11 5 0 = nI nf) (hb : b < nf) (hn12 : nf ≤ 12) (w : Int32) (h : w < 0 ∨ (4 < w ∧ w < 10)) : lk_Mt l X mX8_boat (d + 4) [lk_vr 0 0, lk_vi (nI (b)), lk_vi (w)] σ τ (fun rr σ1 τ1 => rr = some (lk_vi (-1)) ∧ σ1 = σ ∧ τ1 = τ) := by
  refine lk_met (L := [(0, lk_vr 0 0), (1, lk_vi (nI (b))), (2, lk_vi (w))]) (by decide +kernel) (Nat.le_of_ble_eq_true rfl) rfl ?_
  obtain ⟨Q, hQ⟩ : ∃ Q : lk_Q, Q = fun rr σ1 τ1 => rr = some (lk_vi (-1)) ∧ σ1 = σ ∧ τ1 = τ := ⟨_, rfl⟩
  rw [← hQ]
  refine lk_aload_n dX8_boat_0 rfl rfl ?_
  refine lk_getO (f := 1) (o' := 11) dX8_boat_1 rfl fX8_21 (by decide) (by decide) rfl ?_
  refine lk_iload_n dX8_boat_4 rfl rfl ?_
  refine lk_callV (o := 11) (as := [lk_vi (nI (b))]) (S := []) dX8_boat_5 rfl vX2_has rfl lX8_164 rfl rfl (Nat.le_of_ble_eq_true rfl) (tX2_has_in l X (d + 3) σ τ (f := 11) (b := (b)) (hf := rfl) (n := nf) (hn := hn) (hb := hb) (hn22 := by omega)) ?_
  refine lk_k3 ?_
  refine lk_cast (pc' := 8) (S' := [lk_vi 1]) rfl rfl rfl ?_
  refine lk_if_eq (tgt := 26) dX8_boat_8 (by decide) (fun hh1 => absurd hh1 (by decide)) (fun hh1 => ?_)
  refine lk_iload_n dX8_boat_11 rfl rfl ?_
  refine lk_if_lt (tgt := 26) dX8_boat_12 (by decide) (fun hh2 => ?_) (fun hh2 => ?_)
  ·
    refine lk_iconst (v := (-1)) dX8_boat_26 (by decide) ?_
    refine lk_iret .int dX8_boat_27 rfl rfl ?_
    rw [hQ]
    exact ⟨by first | rfl | (simp [*]; done) | (simp_all; done) | grind, by first | rfl | (simp [*]; done), rfl⟩
  ·
    refine lk_iload_n dX8_boat_15 rfl rfl ?_
    refine lk_iconst (v := 4) dX8_boat_16 (by decide) ?_
    refine lk_icmp_le (tgt := 28) dX8_boat_17 (by decide) (fun hh3 => ?_) (fun hh3 => ?_)
    ·
      exact absurd h (by rintro (z | ⟨z1, z2⟩) <;> first | contradiction | exact absurd z1 (Int32.not_lt.mpr (by assumption)) | exact absurd z2 (Int32.not_lt.mpr (by assumption)))
    ·
      refine lk_iload_n dX8_boat_20 rfl rfl ?_
      refine lk_bipush (v := 10) dX8_boat_21 (by decide) ?_
      refine lk_icmp_ge (tgt := 28) dX8_boat_23 (by decide) (fun hh4 => ?_) (fun hh4 => ?_)
      ·
        exact absurd h (by rintro (z | ⟨z1, z2⟩) <;> first | contradiction | exact absurd z1 (Int32.not_lt.mpr (by assumption)) | exact absurd z2 (Int32.not_lt.mpr (by assumption)))
      ·
        refine lk_iconst (v := (-1)) dX8_boat_26 (by decide) ?_
        refine lk_iret .int dX8_boat_27 rfl rfl ?_
        rw [hQ]
        exact ⟨by first | rfl | (simp [*]; done) | (simp_all; done) | grind, by first | rfl | (simp [*]; done), rfl⟩

set_option maxHeartbeats 1000000 in
set_option maxRecDepth 100000 in
theorem tX8_boat_num (l : Launch) (X : lk_G) (d : Nat) (σ : lk_N) (τ : lk_T) (nf b : Nat) (hn : σ 11 5 0 = nI nf) (hb : b < nf) (hn12 : nf ≤ 12) (w : Nat) (hw : w ≤ 4) : lk_Mt l X mX8_boat (d + 4) [lk_vr 0 0, lk_vi (nI (b)), lk_vi (nI (w))] σ τ (fun rr σ1 τ1 => rr = some (lk_vi (lk_fnum (σ 11) b w)) ∧ σ1 = σ ∧ τ1 = τ) := by
  refine lk_met (L := [(0, lk_vr 0 0), (1, lk_vi (nI (b))), (2, lk_vi (nI (w)))]) (by decide +kernel) (Nat.le_of_ble_eq_true rfl) rfl ?_
  obtain ⟨Q, hQ⟩ : ∃ Q : lk_Q, Q = fun rr σ1 τ1 => rr = some (lk_vi (lk_fnum (σ 11) b w)) ∧ σ1 = σ ∧ τ1 = τ := ⟨_, rfl⟩
  rw [← hQ]
  refine lk_aload_n dX8_boat_0 rfl rfl ?_
  refine lk_getO (f := 1) (o' := 11) dX8_boat_1 rfl fX8_21 (by decide) (by decide) rfl ?_
  refine lk_iload_n dX8_boat_4 rfl rfl ?_
  refine lk_callV (o := 11) (as := [lk_vi (nI (b))]) (S := []) dX8_boat_5 rfl vX2_has rfl lX8_164 rfl rfl (Nat.le_of_ble_eq_true rfl) (tX2_has_in l X (d + 3) σ τ (f := 11) (b := (b)) (hf := rfl) (n := nf) (hn := hn) (hb := hb) (hn22 := by omega)) ?_
  refine lk_k3 ?_
  refine lk_cast (pc' := 8) (S' := [lk_vi 1]) rfl rfl rfl ?_
  refine lk_if_eq (tgt := 26) dX8_boat_8 (by decide) (fun hh1 => absurd hh1 (by decide)) (fun hh1 => ?_)
  refine lk_iload_n dX8_boat_11 rfl rfl ?_
  refine lk_if_ltN (a := w) (tgt := 26) dX8_boat_12 (by decide) (by omega) (fun hh2 => absurd hh2 (by omega)) (fun hh2 => ?_)
  refine lk_iload_n dX8_boat_15 rfl rfl ?_
  refine lk_iconst (v := 4) dX8_boat_16 (by decide) ?_
  refine lk_icmp_leN (a := w) (b := 4) (tgt := 28) dX8_boat_17 (by decide) (by omega) (by omega) (fun hh3 => ?_) (fun hh3 => absurd hh3 (by omega))
  refine lk_iload_n dX8_boat_28 rfl rfl ?_
  refine lk_bipush (v := 10) dX8_boat_29 (by decide) ?_
  refine lk_icmp_geN (a := w) (b := 10) (tgt := 46) dX8_boat_31 (by decide) (by omega) (by omega) (fun hh4 => absurd hh4 (by omega)) (fun hh4 => ?_)
  refine lk_aload_n dX8_boat_34 rfl rfl ?_
  refine lk_getO (f := 1) (o' := 11) dX8_boat_35 rfl fX8_21 (by decide) (by decide) rfl ?_
  refine lk_iload_n dX8_boat_38 rfl rfl ?_
  refine lk_iload_n dX8_boat_39 rfl rfl ?_
  refine lk_callV (o := 11) (as := [lk_vi (nI (b)), lk_vi (nI (w))]) (S := []) dX8_boat_40 rfl vX2_number rfl lX8_167 rfl rfl (Nat.le_of_ble_eq_true rfl) (tX2_number l X d σ τ (f := 11) (b := (b)) (w := (w)) (hf := rfl) (n := nf) (hn := hn) (hb := hb) (hn22 := by omega) (hw := hw)) ?_
  refine lk_k3 ?_
  refine lk_cast (pc' := 43) (S' := [lk_vi (lk_fnum (σ 11) (b) (w))]) rfl rfl rfl ?_
  refine lk_goto (tgt := 58) dX8_boat_43 (by decide) ?_
  refine lk_iret .int dX8_boat_58 rfl rfl ?_
  rw [hQ]
  exact ⟨by first | rfl | (simp [*]; done) | (simp_all; done) | grind, by first | rfl | (simp [*]; done), rfl⟩

set_option maxHeartbeats 1000000 in
set_option maxRecDepth 100000 in
theorem tX8_boat_let (l : Launch) (X : lk_G) (d : Nat) (σ : lk_N) (τ : lk_T) (nf b : Nat) (hn : σ 11 5 0 = nI nf) (hb : b < nf) (hn12 : nf ≤ 12) (k : Nat) (hk : k < 4) : lk_Mt l X mX8_boat (d + 4) [lk_vr 0 0, lk_vi (nI (b)), lk_vi (nI (k + 10))] σ τ (fun rr σ1 τ1 => rr = some (lk_vi (lk_lett (σ 11 0 b) k)) ∧ σ1 = σ ∧ τ1 = τ) := by
  refine lk_met (L := [(0, lk_vr 0 0), (1, lk_vi (nI (b))), (2, lk_vi (nI (k + 10)))]) (by decide +kernel) (Nat.le_of_ble_eq_true rfl) rfl ?_
  obtain ⟨Q, hQ⟩ : ∃ Q : lk_Q, Q = fun rr σ1 τ1 => rr = some (lk_vi (lk_lett (σ 11 0 b) k)) ∧ σ1 = σ ∧ τ1 = τ := ⟨_, rfl⟩
  rw [← hQ]
  refine lk_aload_n dX8_boat_0 rfl rfl ?_
  refine lk_getO (f := 1) (o' := 11) dX8_boat_1 rfl fX8_21 (by decide) (by decide) rfl ?_
  refine lk_iload_n dX8_boat_4 rfl rfl ?_
  refine lk_callV (o := 11) (as := [lk_vi (nI (b))]) (S := []) dX8_boat_5 rfl vX2_has rfl lX8_164 rfl rfl (Nat.le_of_ble_eq_true rfl) (tX2_has_in l X (d + 3) σ τ (f := 11) (b := (b)) (hf := rfl) (n := nf) (hn := hn) (hb := hb) (hn22 := by omega)) ?_
  refine lk_k3 ?_
  refine lk_cast (pc' := 8) (S' := [lk_vi 1]) rfl rfl rfl ?_
  refine lk_if_eq (tgt := 26) dX8_boat_8 (by decide) (fun hh1 => absurd hh1 (by decide)) (fun hh1 => ?_)
  refine lk_iload_n dX8_boat_11 rfl rfl ?_
  refine lk_if_ltN (a := k + 10) (tgt := 26) dX8_boat_12 (by decide) (by omega) (fun hh2 => absurd hh2 (by omega)) (fun hh2 => ?_)
  refine lk_iload_n dX8_boat_15 rfl rfl ?_
  refine lk_iconst (v := 4) dX8_boat_16 (by decide) ?_
  refine lk_icmp_leN (a := k + 10) (b := 4) (tgt := 28) dX8_boat_17 (by decide) (by omega) (by omega) (fun hh3 => absurd hh3 (by omega)) (fun hh3 => ?_)
  refine lk_iload_n dX8_boat_20 rfl rfl ?_
  refine lk_bipush (v := 10) dX8_boat_21 (by decide) ?_
  refine lk_icmp_geN (a := k + 10) (b := 10) (tgt := 28) dX8_boat_23 (by decide) (by omega) (by omega) (fun hh4 => ?_) (fun hh4 => absurd hh4 (by omega))
  refine lk_iload_n dX8_boat_28 rfl rfl ?_
  refine lk_bipush (v := 10) dX8_boat_29 (by decide) ?_
  refine lk_icmp_geN (a := k + 10) (b := 10) (tgt := 46) dX8_boat_31 (by decide) (by omega) (by omega) (fun hh5 => ?_) (fun hh5 => absurd hh5 (by omega))
  refine lk_aload_n dX8_boat_46 rfl rfl ?_
  refine lk_getO (f := 1) (o' := 11) dX8_boat_47 rfl fX8_21 (by decide) (by decide) rfl ?_
  refine lk_iload_n dX8_boat_50 rfl rfl ?_
  refine lk_iload_n dX8_boat_51 rfl rfl ?_
  refine lk_bipush (v := 10) dX8_boat_52 (by decide) ?_
  refine lk_isubN (a := k + 10) (b := 10) dX8_boat_54 (by omega) ?_
  refine lk_callV (o := 11) (as := [lk_vi (nI (b)), lk_vi (nI ((k + 10) - (10)))]) (S := []) dX8_boat_55 rfl vX2_letter rfl lX8_170 rfl rfl (Nat.le_of_ble_eq_true rfl) (tX2_letter_in l X (d + 2) σ τ (f := 11) (b := (b)) (k := ((k + 10) - (10))) (hf := rfl) (n := nf) (hn := hn) (hb := hb) (hn22 := by omega) (hk := by omega)) ?_
  refine lk_k3 ?_
  refine lk_cast (pc' := 58) (S' := [lk_vi (lk_lett (σ 11 0 (b)) ((k + 10) - (10)))]) rfl rfl rfl ?_
  refine lk_iret .int dX8_boat_58 rfl rfl ?_
  rw [hQ]
  rw [show k + 10 - 10 = k by omega]
  exact ⟨rfl, rfl, rfl⟩

set_option maxHeartbeats 1000000 in
set_option maxRecDepth 100000 in
theorem tX8_boat_far (l : Launch) (X : lk_G) (d : Nat) (σ : lk_N) (τ : lk_T) (nf b : Nat) (hn : σ 11 5 0 = nI nf) (hb : b < nf) (hn12 : nf ≤ 12) (w : Int32) (hw : 14 ≤ w) : lk_Mt l X mX8_boat (d + 4) [lk_vr 0 0, lk_vi (nI (b)), lk_vi (w)] σ τ (fun rr σ1 τ1 => rr = some (lk_vi (-2)) ∧ σ1 = σ ∧ τ1 = τ) := by
  refine lk_met (L := [(0, lk_vr 0 0), (1, lk_vi (nI (b))), (2, lk_vi (w))]) (by decide +kernel) (Nat.le_of_ble_eq_true rfl) rfl ?_
  obtain ⟨Q, hQ⟩ : ∃ Q : lk_Q, Q = fun rr σ1 τ1 => rr = some (lk_vi (-2)) ∧ σ1 = σ ∧ τ1 = τ := ⟨_, rfl⟩
  rw [← hQ]
  refine lk_aload_n dX8_boat_0 rfl rfl ?_
  refine lk_getO (f := 1) (o' := 11) dX8_boat_1 rfl fX8_21 (by decide) (by decide) rfl ?_
  refine lk_iload_n dX8_boat_4 rfl rfl ?_
  refine lk_callV (o := 11) (as := [lk_vi (nI (b))]) (S := []) dX8_boat_5 rfl vX2_has rfl lX8_164 rfl rfl (Nat.le_of_ble_eq_true rfl) (tX2_has_in l X (d + 3) σ τ (f := 11) (b := (b)) (hf := rfl) (n := nf) (hn := hn) (hb := hb) (hn22 := by omega)) ?_
  refine lk_k3 ?_
  refine lk_cast (pc' := 8) (S' := [lk_vi 1]) rfl rfl rfl ?_
  refine lk_if_eq (tgt := 26) dX8_boat_8 (by decide) (fun hh1 => absurd hh1 (by decide)) (fun hh1 => ?_)
  refine lk_iload_n dX8_boat_11 rfl rfl ?_
  refine lk_if_lt (tgt := 26) dX8_boat_12 (by decide) (fun hh2 => absurd hh2 (lk_far1 hw)) (fun hh2 => ?_)
  refine lk_iload_n dX8_boat_15 rfl rfl ?_
  refine lk_iconst (v := 4) dX8_boat_16 (by decide) ?_
  refine lk_icmp_le (tgt := 28) dX8_boat_17 (by decide) (fun hh3 => absurd hh3 (lk_far2 hw)) (fun hh3 => ?_)
  refine lk_iload_n dX8_boat_20 rfl rfl ?_
  refine lk_bipush (v := 10) dX8_boat_21 (by decide) ?_
  refine lk_icmp_ge (tgt := 28) dX8_boat_23 (by decide) (fun hh4 => ?_) (fun hh4 => absurd hh4 (lk_far3 hw))
  refine lk_iload_n dX8_boat_28 rfl rfl ?_
  refine lk_bipush (v := 10) dX8_boat_29 (by decide) ?_
  refine lk_icmp_ge (tgt := 46) dX8_boat_31 (by decide) (fun hh5 => ?_) (fun hh5 => absurd hh5 (lk_far3 hw))
  refine lk_aload_n dX8_boat_46 rfl rfl ?_
  refine lk_getO (f := 1) (o' := 11) dX8_boat_47 rfl fX8_21 (by decide) (by decide) rfl ?_
  refine lk_iload_n dX8_boat_50 rfl rfl ?_
  refine lk_iload_n dX8_boat_51 rfl rfl ?_
  refine lk_bipush (v := 10) dX8_boat_52 (by decide) ?_
  refine lk_isub dX8_boat_54 ?_
  refine lk_callV (o := 11) (as := [lk_vi (nI (b)), lk_vi ((w) - 10)]) (S := []) dX8_boat_55 rfl vX2_letter rfl lX8_170 rfl rfl (Nat.le_of_ble_eq_true rfl) (tX2_letter_out l X (d + 2) σ τ (f := 11) (b := (b)) (k := ((w) - 10)) (hf := rfl) (n := nf) (hn := hn) (hb := hb) (hn22 := by omega) (hk := lk_far hw)) ?_
  refine lk_k3 ?_
  refine lk_cast (pc' := 58) (S' := [lk_vi (-2)]) rfl rfl rfl ?_
  refine lk_iret .int dX8_boat_58 rfl rfl ?_
  rw [hQ]
  exact ⟨by first | rfl | (simp [*]; done) | (simp_all; done) | grind, by first | rfl | (simp [*]; done), rfl⟩
