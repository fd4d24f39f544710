theorem lk_tr {u : Nat} (h : u ≤ 4) : 0 ≤ nI u ∧ nI u ≤ 4 := ⟨nI_pos' (by omega), nI_le (b := 4) h (by decide)⟩
theorem lk_k5 {α : Type} {F : α → lk_N} {r1 : Option lk_V} {τ1 : lk_T} {R : Option lk_V → lk_N → lk_T → Prop} (h : ∀ W, R r1 (F W) τ1) : ∀ r σ τ, (r = r1 ∧ τ = τ1 ∧ ∃ W, σ = F W) → R r σ τ := by
  rintro _ _ _ ⟨rfl, rfl, W, rfl⟩; exact h W
/-- which pond makes most: locks k .. on, with what is best so far -/
def lk_pon (V T : lk_O) (n u e m : Nat) : Nat → Int32 × Int32
  | 0 => ((lk_dys n u e m V T).1 6 n, -2)
  | k + 1 => if V 3 k < 3 ∧ (V 5 k = 0 ∧ V 4 k = 0) ∧ (lk_pon V T n u e m k).1 < (lk_dys n u e m (lk_ou V 3 k (V 3 k + 1)) T).1 6 n then ((lk_dys n u e m (lk_ou V 3 k (V 3 k + 1)) T).1 6 n, nI k) else lk_pon V T n u e m k
theorem lk_ou_cok {V : lk_O} {n k : Nat} (h : lk_cok V n) (hk : k < n) (h3 : V 3 k < 3) (hr : V 5 k = 0 ∧ V 4 k = 0) : lk_cok (lk_ou V 3 k (V 3 k + 1)) n := by
  refine ⟨by have := h.1; simp [lk_ou]; exact this, h.2.1, h.2.2.1, fun i hi => ?_⟩
  have hl := h.2.2.2 i hi
  unfold lk_lok at hl ⊢
  by_cases e : i = k
  · subst e
    have a := Int32.lt_iff_toInt_lt.mp h3
    have z3 : (3 : Int32).toInt = 3 := rfl
    have e1 := lk_ta (a := V 3 i) (b := 1) rfl (show (1 : Int32).toInt = 1 from rfl) (by omega) (by omega) (by decide) (by decide)
    simp [lk_ou, -Int32.toInt_add]
    rw [e1]
    exact ⟨hl.1, hl.2.1, by omega, by omega, hl.2.2.2.2.1, hl.2.2.2.2.2.1, hl.2.2.2.2.2.2⟩
  · simp [lk_ou, e]
    exact hl
def lk_img (σ : lk_N) : lk_N := lk_up (lk_so (lk_so (lk_so σ 5 (lk_im (σ 2) (σ 5))) 6 (σ 3)) 13 (σ 11)) 0 7 0 1
def lk_und (σ : lk_N) : lk_N := lk_so (lk_so (lk_so σ 2 (lk_im (σ 5) (σ 2))) 3 (σ 6)) 11 (σ 13)
set_option maxHeartbeats 1000000 in
set_option maxRecDepth 100000 in
theorem tX8_day_bad (l : Launch) (X : lk_G) (d : Nat) (σ : lk_N) (τ : lk_T) (u e : Int32) (h : ¬ ((0 ≤ u ∧ u ≤ 4) ∧ (0 ≤ e ∧ e ≤ 4))) : lk_Mt l X mX8_day (d + 5) [lk_vr 0 0, lk_vi (u), lk_vi (e)] σ τ (fun rr σ1 τ1 => rr = some (lk_vi (-1)) ∧ σ1 = σ ∧ τ1 = τ) := by
  refine lk_met (L := [(0, lk_vr 0 0), (1, lk_vi (u)), (2, lk_vi (e))]) (by decide +kernel) (Nat.le_of_ble_eq_true rfl) rfl ?_
  obtain ⟨Q, hQ⟩ : ∃ Q : lk_Q, Q = fun rr σ1 τ1 => rr = some (lk_vi (-1)) ∧ σ1 = σ ∧ τ1 = τ := ⟨_, rfl⟩
  rw [← hQ]
  refine lk_iload_n dX8_day_0 rfl rfl ?_
  refine lk_callS (as := [lk_vi (u)]) (S := []) dX8_day_1 rfl vX8_isTraffic rfl lX8_305 (Nat.le_of_ble_eq_true rfl) (tX8_isTraffic l X (d + 4) σ τ (v := (u)) ) ?_
  refine lk_k3 ?_
  refine lk_cast (pc' := 4) (S' := [lk_vi (if 0 ≤ (u) ∧ (u) ≤ 4 then 1 else 0)]) rfl rfl rfl ?_
  refine lk_if_eqB (tgt := 26) dX8_day_4 (by decide) (fun hh1 => ?_) (fun hh1 => ?_)
  ·
    refine lk_iconst (v := (-1)) dX8_day_26 (by decide) ?_
    refine lk_iret .int dX8_day_27 rfl rfl ?_
    rw [hQ]
    exact ⟨by first | rfl | (simp [*]; done) | (simp_all; done) | grind, by first | rfl | (simp [*]; done), rfl⟩
  ·
    refine lk_iload_n dX8_day_7 rfl rfl ?_
    refine lk_callS (as := [lk_vi (e)]) (S := []) dX8_day_8 rfl vX8_isTraffic rfl lX8_305 (Nat.le_of_ble_eq_true rfl) (tX8_isTraffic l X (d + 4) σ τ (v := (e)) ) ?_
    refine lk_k3 ?_
    refine lk_cast (pc' := 11) (S' := [lk_vi (if 0 ≤ (e) ∧ (e) ≤ 4 then 1 else 0)]) rfl rfl rfl ?_
    refine lk_if_eqB (tgt := 26) dX8_day_11 (by decide) (fun hh2 => ?_) (fun hh2 => ?_)
    ·
      refine lk_iconst (v := (-1)) dX8_day_26 (by decide) ?_
      refine lk_iret .int dX8_day_27 rfl rfl ?_
      rw [hQ]
      exact ⟨by first | rfl | (simp [*]; done) | (simp_all; done) | grind, by first | rfl | (simp [*]; done), rfl⟩
    ·
      exact absurd ⟨by assumption, by assumption⟩ h

set_option maxHeartbeats 1000000 in
set_option maxRecDepth 100000 in
theorem tX8_day_ok (l : Launch) (X : lk_G) (d : Nat) (σ : lk_N) (τ : lk_T) (n : Nat) (hV : lk_cok (σ 2) n) (u e : Nat) (hu : u ≤ 4) (he : e ≤ 4) : lk_Mt l X mX8_day (d + 5) [lk_vr 0 0, lk_vi (nI (u)), lk_vi (nI (e))] σ τ (fun rr σ1 τ1 => rr = some (lk_vi (nI ((lk_day (σ 2) (σ 3) n u e).1))) ∧ σ1 = lk_yS σ 2 (lk_day (σ 2) (σ 3) n u e).2 ∧ τ1 = τ) := by
  refine lk_met (L := [(0, lk_vr 0 0), (1, lk_vi (nI (u))), (2, lk_vi (nI (e)))]) (by decide +kernel) (Nat.le_of_ble_eq_true rfl) rfl ?_
  obtain ⟨Q, hQ⟩ : ∃ Q : lk_Q, Q = fun rr σ1 τ1 => rr = some (lk_vi (nI ((lk_day (σ 2) (σ 3) n u e).1))) ∧ σ1 = lk_yS σ 2 (lk_day (σ 2) (σ 3) n u e).2 ∧ τ1 = τ := ⟨_, rfl⟩
  rw [← hQ]
  refine lk_iload_n dX8_day_0 rfl rfl ?_
  refine lk_callS (as := [lk_vi (nI (u))]) (S := []) dX8_day_1 rfl vX8_isTraffic rfl lX8_305 (Nat.le_of_ble_eq_true rfl) (tX8_isTraffic l X (d + 4) σ τ (v := (nI (u))) ) ?_
  refine lk_k3 ?_
  refine lk_cast (pc' := 4) (S' := [lk_vi (if 0 ≤ (nI (u)) ∧ (nI (u)) ≤ 4 then 1 else 0)]) rfl rfl rfl ?_
  refine lk_if_eqB (tgt := 26) dX8_day_4 (by decide) (fun hh1 => absurd hh1 (by intro q; exact q (lk_tr hu))) (fun hh1 => ?_)
  refine lk_iload_n dX8_day_7 rfl rfl ?_
  refine lk_callS (as := [lk_vi (nI (e))]) (S := []) dX8_day_8 rfl vX8_isTraffic rfl lX8_305 (Nat.le_of_ble_eq_true rfl) (tX8_isTraffic l X (d + 4) σ τ (v := (nI (e))) ) ?_
  refine lk_k3 ?_
  refine lk_cast (pc' := 11) (S' := [lk_vi (if 0 ≤ (nI (e)) ∧ (nI (e)) ≤ 4 then 1 else 0)]) rfl rfl rfl ?_
  refine lk_if_eqB (tgt := 26) dX8_day_11 (by decide) (fun hh2 => absurd hh2 (by intro q; exact q (lk_tr he))) (fun hh2 => ?_)
  refine lk_aload_n dX8_day_14 rfl rfl ?_
  refine lk_getO (f := 0) (o' := 2) dX8_day_15 rfl fX8_14 (by decide) (by decide) rfl ?_
  refine lk_iload_n dX8_day_18 rfl rfl ?_
  refine lk_iload_n dX8_day_19 rfl rfl ?_
  refine lk_callV (o := 2) (as := [lk_vi (nI (u)), lk_vi (nI (e))]) (S := []) dX8_day_20 rfl vX0_wholeDay rfl lX8_308 rfl rfl (Nat.le_of_ble_eq_true rfl) (tX0_wholeDay l X d σ τ (c := 2) (u := (u)) (e := (e)) (hc := rfl) (n := n) (hV := hV) (hu := hu) (he := he)) ?_
  refine lk_k3 ?_
  refine lk_cast (pc' := 23) (S' := [lk_vi (nI ((lk_day (σ 2) (σ (2 + 1)) n (u) (e)).1))]) rfl rfl rfl ?_
  refine lk_goto (tgt := 27) dX8_day_23 (by decide) ?_
  refine lk_iret .int dX8_day_27 rfl rfl ?_
  rw [hQ]
  exact ⟨by first | rfl | (simp [*]; done) | (simp_all; done) | grind, by first | rfl | (simp [*]; done), rfl⟩

set_option maxHeartbeats 1000000 in
set_option maxRecDepth 100000 in
theorem tX8_summitInThought (l : Launch) (X : lk_G) (d : Nat) (σ : lk_N) (τ : lk_T) (n : Nat) (hV : lk_cok (σ 8) n) (u e : Nat) (hu : u ≤ 4) (he : e ≤ 4) (m : Nat) (hm : m ≤ 20) : lk_Mt l X mX8_summitInThought (d + 5) [lk_vr 0 0, lk_vi (nI (u)), lk_vi (nI (e)), lk_vi (nI (m))] σ τ (fun rr σ1 τ1 => rr = some (lk_vi ((lk_dys n u e m (σ 8) (σ 9)).1 6 n)) ∧ τ1 = τ ∧ ∃ K : lk_O, σ1 = lk_s3 σ (lk_dys n u e m (σ 8) (σ 9)).1 (lk_dys n u e m (σ 8) (σ 9)).2 K) := by
  refine lk_met (L := [(0, lk_vr 0 0), (1, lk_vi (nI (u))), (2, lk_vi (nI (e))), (3, lk_vi (nI (m)))]) (by decide +kernel) (Nat.le_of_ble_eq_true rfl) rfl ?_
  obtain ⟨Q, hQ⟩ : ∃ Q : lk_Q, Q = fun rr σ1 τ1 => rr = some (lk_vi ((lk_dys n u e m (σ 8) (σ 9)).1 6 n)) ∧ τ1 = τ ∧ ∃ K : lk_O, σ1 = lk_s3 σ (lk_dys n u e m (σ 8) (σ 9)).1 (lk_dys n u e m (σ 8) (σ 9)).2 K := ⟨_, rfl⟩
  rw [← hQ]
  obtain ⟨R, hR⟩ : ∃ R, R = (lk_dys n u e m (σ 8) (σ 9)) := ⟨_, rfl⟩
  rw [← hR] at hQ
  refine lk_iconst (v := 0) dX8_summitInThought_0 (by decide) ?_
  refine lk_istore (L' := [(0, lk_vr 0 0), (1, lk_vi (nI (u))), (2, lk_vi (nI (e))), (3, lk_vi (nI (m))), (4, lk_vi 0)]) dX8_summitInThought_1 (by decide +kernel) rfl ?_
  have LP3 : ∀ (fu : Nat) (i : Nat) (V T K : lk_O), i ≤ m → lk_cok V n → R = lk_dys n u e (m - i) V T → m - i < fu → lk_W l X mX8_summitInThought (d + 5) 3 [(0, lk_vr 0 0), (1, lk_vi (nI (u))), (2, lk_vi (nI (e))), (3, lk_vi (nI (m))), (4, lk_vi (nI (i)))] [] (lk_s3 σ V T K) τ Q := by
    intro fu
    induction fu with
    | zero => intro i V T K hi hW hI hfu; exact absurd hfu (by omega)
    | succ fu ih =>
      intro i V T K hi hW hI hfu
      refine lk_iload dX8_summitInThought_3 rfl ?_
      refine lk_iload_n dX8_summitInThought_5 rfl rfl ?_
      refine lk_icmp_geN (a := i) (b := m) (tgt := 25) dX8_summitInThought_6 (by decide) (by omega) (by omega) (fun hh1 => ?_) (fun hh1 => ?_)
      ·
        refine lk_aload_n dX8_summitInThought_25 rfl rfl ?_
        refine lk_getO (f := 8) (o' := 8) dX8_summitInThought_26 rfl fX8_38 (by decide) (by decide) rfl ?_
        refine lk_callV (o := 8) (as := []) (S := []) dX8_summitInThought_29 rfl vX0_summitWater rfl lX8_213 rfl rfl (Nat.le_of_ble_eq_true rfl) (tX0_summitWater l X (d + 4) (lk_s3 σ V T K) τ (c := 8) (hc := rfl) (n := n) (hn := by rw [lk_s3_8]; exact hW.1) (hn6 := hW.2.2.1)) ?_
        refine lk_k3 ?_
        refine lk_cast (pc' := 32) (S' := [lk_vi ((lk_s3 σ V T K) 8 6 n)]) rfl rfl rfl ?_
        refine lk_eqtop (y := (V 6 n)) (by rw [lk_s3_8]) ?_
        refine lk_iret .int dX8_summitInThought_32 rfl rfl ?_
        rw [hQ]
        rw [show m - i = 0 by omega, lk_dys] at hI
        rw [hI]
        exact ⟨rfl, rfl, K, rfl⟩
      ·
        refine lk_aload_n dX8_summitInThought_9 rfl rfl ?_
        refine lk_getO (f := 8) (o' := 8) dX8_summitInThought_10 rfl fX8_38 (by decide) (by decide) rfl ?_
        refine lk_iload_n dX8_summitInThought_13 rfl rfl ?_
        refine lk_iload_n dX8_summitInThought_14 rfl rfl ?_
        refine lk_callV (o := 8) (as := [lk_vi (nI (u)), lk_vi (nI (e))]) (S := []) dX8_summitInThought_15 rfl vX0_wholeDay rfl lX8_308 rfl rfl (Nat.le_of_ble_eq_true rfl) (tX0_wholeDay l X d (lk_s3 σ V T K) τ (c := 8) (u := (u)) (e := (e)) (hc := rfl) (n := n) (hV := by rw [lk_s3_8]; exact hW) (hu := hu) (he := he)) ?_
        refine lk_k3 ?_
        refine lk_cast (pc' := 18) (S' := [lk_vi (nI ((lk_day ((lk_s3 σ V T K) 8) ((lk_s3 σ V T K) (8 + 1)) n (u) (e)).1))]) rfl rfl rfl ?_
        refine lk_pop dX8_summitInThought_18 rfl ?_
        refine lk_iincN (a := i) (m := 1) (L' := [(0, lk_vr 0 0), (1, lk_vi (nI (u))), (2, lk_vi (nI (e))), (3, lk_vi (nI (m))), (4, lk_vi (nI (i + 1)))]) dX8_summitInThought_19 rfl rfl (by decide +kernel) rfl ?_
        refine lk_goto (tgt := 3) dX8_summitInThought_22 (by decide) ?_
        simp only [Nat.reduceAdd, lk_s3_8, lk_s3_9, lk_s3_yS]
        rw [show m - i = (m - (i + 1)) + 1 by omega, lk_dys] at hI
        exact ih (i + 1) _ _ _ (by omega) (lk_day_cok hW) hI (by omega)
  refine lk_sg (lk_s3_self σ) ?_
  exact LP3 (m + 1) 0 _ _ _ (Nat.zero_le _) hV hR (by omega)

set_option maxHeartbeats 1000000 in
set_option maxRecDepth 100000 in
theorem tX8_dry_bad (l : Launch) (X : lk_G) (d : Nat) (σ : lk_N) (τ : lk_T) (u e w : Int32) (h : ¬ ((0 ≤ u ∧ u ≤ 4) ∧ (0 ≤ e ∧ e ≤ 4) ∧ 0 ≤ w ∧ w ≤ 1)) : lk_Mt l X mX8_dry (d + 5) [lk_vr 0 0, lk_vi (u), lk_vi (e), lk_vi (w)] σ τ (fun rr σ1 τ1 => rr = some (lk_vi (-1)) ∧ σ1 = σ ∧ τ1 = τ) := by
  refine lk_met (L := [(0, lk_vr 0 0), (1, lk_vi (u)), (2, lk_vi (e)), (3, lk_vi (w))]) (by decide +kernel) (Nat.le_of_ble_eq_true rfl) rfl ?_
  obtain ⟨Q, hQ⟩ : ∃ Q : lk_Q, Q = fun rr σ1 τ1 => rr = some (lk_vi (-1)) ∧ σ1 = σ ∧ τ1 = τ := ⟨_, rfl⟩
  rw [← hQ]
  refine lk_iload_n dX8_dry_0 rfl rfl ?_
  refine lk_callS (as := [lk_vi (u)]) (S := []) dX8_dry_1 rfl vX8_isTraffic rfl lX8_305 (Nat.le_of_ble_eq_true rfl) (tX8_isTraffic l X (d + 4) σ τ (v := (u)) ) ?_
  refine lk_k3 ?_
  refine lk_cast (pc' := 4) (S' := [lk_vi (if 0 ≤ (u) ∧ (u) ≤ 4 then 1 else 0)]) rfl rfl rfl ?_
  refine lk_if_eqB (tgt := 23) dX8_dry_4 (by decide) (fun hh1 => ?_) (fun hh1 => ?_)
  ·
    refine lk_iconst (v := (-1)) dX8_dry_23 (by decide) ?_
    refine lk_iret .int dX8_dry_24 rfl rfl ?_
    rw [hQ]
    exact ⟨by first | rfl | (simp [*]; done) | (simp_all; done) | grind, by first | rfl | (simp [*]; done), rfl⟩
  ·
    refine lk_iload_n dX8_dry_7 rfl rfl ?_
    refine lk_callS (as := [lk_vi (e)]) (S := []) dX8_dry_8 rfl vX8_isTraffic rfl lX8_305 (Nat.le_of_ble_eq_true rfl) (tX8_isTraffic l X (d + 4) σ τ (v := (e)) ) ?_
    refine lk_k3 ?_
    refine lk_cast (pc' := 11) (S' := [lk_vi (if 0 ≤ (e) ∧ (e) ≤ 4 then 1 else 0)]) rfl rfl rfl ?_
    refine lk_if_eqB (tgt := 23) dX8_dry_11 (by decide) (fun hh2 => ?_) (fun hh2 => ?_)
    ·
      refine lk_iconst (v := (-1)) dX8_dry_23 (by decide) ?_
      refine lk_iret .int dX8_dry_24 rfl rfl ?_
      rw [hQ]
      exact ⟨by first | rfl | (simp [*]; done) | (simp_all; done) | grind, by first | rfl | (simp [*]; done), rfl⟩
    ·
      refine lk_iload_n dX8_dry_14 rfl rfl ?_
      refine lk_if_lt (tgt := 23) dX8_dry_15 (by decide) (fun hh3 => ?_) (fun hh3 => ?_)
      ·
        refine lk_iconst (v := (-1)) dX8_dry_23 (by decide) ?_
        refine lk_iret .int dX8_dry_24 rfl rfl ?_
        rw [hQ]
        exact ⟨by first | rfl | (simp [*]; done) | (simp_all; done) | grind, by first | rfl | (simp [*]; done), rfl⟩
      ·
        refine lk_iload_n dX8_dry_18 rfl rfl ?_
        refine lk_iconst (v := 1) dX8_dry_19 (by decide) ?_
        refine lk_icmp_le (tgt := 25) dX8_dry_20 (by decide) (fun hh4 => ?_) (fun hh4 => ?_)
        ·
          exact absurd ⟨by assumption, by assumption, Int32.not_lt.mp (by assumption), by assumption⟩ h
        ·
          refine lk_iconst (v := (-1)) dX8_dry_23 (by decide) ?_
          refine lk_iret .int dX8_dry_24 rfl rfl ?_
          rw [hQ]
          exact ⟨by first | rfl | (simp [*]; done) | (simp_all; done) | grind, by first | rfl | (simp [*]; done), rfl⟩

set_option maxHeartbeats 1000000 in
set_option maxRecDepth 100000 in
theorem tX8_dry_0 (l : Launch) (X : lk_G) (d : Nat) (σ : lk_N) (τ : lk_T) (n : Nat) (hV : lk_cok (σ 2) n) (u e : Nat) (hu : u ≤ 4) (he : e ≤ 4) (h01 : ∀ k, k < 6 → σ 2 5 k = 0 ∨ σ 2 5 k = 1) : lk_Mt l X mX8_dry (d + 5) [lk_vr 0 0, lk_vi (nI (u)), lk_vi (nI (e)), lk_vi 0] σ τ (fun rr σ1 τ1 => rr = some (lk_vi (match lk_drf n u e 41 0 (σ 2) (σ 3) with | some p => nI p.1 | none => -2)) ∧ τ1 = τ ∧ ∃ W : lk_O × lk_O × lk_O, σ1 = lk_s3 σ W.1 W.2.1 W.2.2) := by
  refine lk_met (L := [(0, lk_vr 0 0), (1, lk_vi (nI (u))), (2, lk_vi (nI (e))), (3, lk_vi 0)]) (by decide +kernel) (Nat.le_of_ble_eq_true rfl) rfl ?_
  obtain ⟨Q, hQ⟩ : ∃ Q : lk_Q, Q = fun rr σ1 τ1 => rr = some (lk_vi (match lk_drf n u e 41 0 (σ 2) (σ 3) with | some p => nI p.1 | none => -2)) ∧ τ1 = τ ∧ ∃ W : lk_O × lk_O × lk_O, σ1 = lk_s3 σ W.1 W.2.1 W.2.2 := ⟨_, rfl⟩
  rw [← hQ]
  obtain ⟨R, hR⟩ : ∃ R, R = lk_drf n u e 41 0 (σ 2) (σ 3) := ⟨_, rfl⟩
  rw [← hR] at hQ
  refine lk_iload_n dX8_dry_0 rfl rfl ?_
  refine lk_callS (as := [lk_vi (nI (u))]) (S := []) dX8_dry_1 rfl vX8_isTraffic rfl lX8_305 (Nat.le_of_ble_eq_true rfl) (tX8_isTraffic l X (d + 4) σ τ (v := (nI (u))) ) ?_
  refine lk_k3 ?_
  refine lk_cast (pc' := 4) (S' := [lk_vi (if 0 ≤ (nI (u)) ∧ (nI (u)) ≤ 4 then 1 else 0)]) rfl rfl rfl ?_
  refine lk_if_eqB (tgt := 23) dX8_dry_4 (by decide) (fun hh1 => absurd hh1 (by intro q; exact q (lk_tr hu))) (fun hh1 => ?_)
  refine lk_iload_n dX8_dry_7 rfl rfl ?_
  refine lk_callS (as := [lk_vi (nI (e))]) (S := []) dX8_dry_8 rfl vX8_isTraffic rfl lX8_305 (Nat.le_of_ble_eq_true rfl) (tX8_isTraffic l X (d + 4) σ τ (v := (nI (e))) ) ?_
  refine lk_k3 ?_
  refine lk_cast (pc' := 11) (S' := [lk_vi (if 0 ≤ (nI (e)) ∧ (nI (e)) ≤ 4 then 1 else 0)]) rfl rfl rfl ?_
  refine lk_if_eqB (tgt := 23) dX8_dry_11 (by decide) (fun hh2 => absurd hh2 (by intro q; exact q (lk_tr he))) (fun hh2 => ?_)
  refine lk_iload_n dX8_dry_14 rfl rfl ?_
  refine lk_if_lt (tgt := 23) dX8_dry_15 (by decide) (fun hh3 => absurd hh3 (by decide)) (fun hh3 => ?_)
  refine lk_iload_n dX8_dry_18 rfl rfl ?_
  refine lk_iconst (v := 1) dX8_dry_19 (by decide) ?_
  refine lk_icmp_leN (a := 0) (b := 1) (tgt := 25) dX8_dry_20 (by decide) (by omega) (by omega) (fun hh4 => ?_) (fun hh4 => absurd hh4 (by decide))
  refine lk_aload_n dX8_dry_25 rfl rfl ?_
  refine lk_getO (f := 8) (o' := 8) dX8_dry_26 rfl fX8_38 (by decide) (by decide) rfl ?_
  refine lk_aload_n dX8_dry_29 rfl rfl ?_
  refine lk_getO (f := 0) (o' := 2) dX8_dry_30 rfl fX8_14 (by decide) (by decide) rfl ?_
  refine lk_callV (o := 8) (as := [lk_vr 2 0]) (S := []) dX8_dry_33 rfl vX0_copyFrom rfl lX8_210 rfl rfl (Nat.le_of_ble_eq_true rfl) (tX0_copyFrom l X (d + 1) σ τ (c := 8) (o := 2) (hc := rfl) (ho := rfl) (hco := by decide) (h01 := h01)) ?_
  refine lk_k3 ?_
  refine lk_cast (pc' := 36) (S' := []) rfl rfl rfl ?_
  refine lk_sg (σ' := lk_s3 σ (lk_im (σ 2) (σ 8)) (σ 3) (σ 10)) (lk_s3_cp0 σ _ _).symm ?_
  refine lk_iconst (v := 0) dX8_dry_36 (by decide) ?_
  refine lk_istore (L' := [(0, lk_vr 0 0), (1, lk_vi (nI (u))), (2, lk_vi (nI (e))), (3, lk_vi 0), (4, lk_vi 0)]) dX8_dry_37 (by decide +kernel) rfl ?_
  have LP39 : ∀ (fu : Nat) (i : Nat) (V T K : lk_O), i ≤ 41 → lk_cok V n → R = lk_drf n u e (41 - i) i V T → 41 - i < fu → lk_W l X mX8_dry (d + 5) 39 [(0, lk_vr 0 0), (1, lk_vi (nI (u))), (2, lk_vi (nI (e))), (3, lk_vi 0), (4, lk_vi (nI (i)))] [] (lk_s3 σ V T K) τ Q := by
    intro fu
    induction fu with
    | zero => intro i V T K hi hW hI hfu; exact absurd hfu (by omega)
    | succ fu ih =>
      intro i V T K hi hW hI hfu
      refine lk_iload dX8_dry_39 rfl ?_
      refine lk_bipush (v := 40) dX8_dry_41 (by decide) ?_
      refine lk_icmp_gtN (a := i) (b := 40) (tgt := 92) dX8_dry_43 (by decide) (by omega) (by omega) (fun hh5 => ?_) (fun hh5 => ?_)
      ·
        refine lk_bipush (v := (-2)) dX8_dry_92 (by decide) ?_
        refine lk_iret .int dX8_dry_94 rfl rfl ?_
        rw [hQ]
        rw [show 41 - i = 0 by omega, lk_drf] at hI
        rw [hI]
        exact ⟨rfl, rfl, (V, T, K), rfl⟩
      ·
        refine lk_aload_n dX8_dry_46 rfl rfl ?_
        refine lk_getO (f := 8) (o' := 8) dX8_dry_47 rfl fX8_38 (by decide) (by decide) rfl ?_
        refine lk_iload_n dX8_dry_50 rfl rfl ?_
        refine lk_iload_n dX8_dry_51 rfl rfl ?_
        refine lk_callV (o := 8) (as := [lk_vi (nI (u)), lk_vi (nI (e))]) (S := []) dX8_dry_52 rfl vX0_wholeDay rfl lX8_308 rfl rfl (Nat.le_of_ble_eq_true rfl) (tX0_wholeDay l X d (lk_s3 σ V T K) τ (c := 8) (u := (u)) (e := (e)) (hc := rfl) (n := n) (hV := by rw [lk_s3_8]; exact hW) (hu := hu) (he := he)) ?_
        refine lk_k3 ?_
        refine lk_cast (pc' := 55) (S' := [lk_vi (nI ((lk_day ((lk_s3 σ V T K) 8) ((lk_s3 σ V T K) (8 + 1)) n (u) (e)).1))]) rfl rfl rfl ?_
        refine lk_sg (σ' := lk_s3 σ (lk_fl (lk_day V T n u e).2) (lk_day V T n u e).2.2.2 (lk_fK K (lk_day V T n u e).2)) (by rw [← lk_s3_yS σ V T K]; simp only [Nat.reduceAdd, lk_s3_8, lk_s3_9]) ?_
        refine lk_pop dX8_dry_55 rfl ?_
        refine lk_aload_n dX8_dry_56 rfl rfl ?_
        refine lk_getO (f := 8) (o' := 8) dX8_dry_57 rfl fX8_38 (by decide) (by decide) rfl ?_
        rcases hj : (lk_day V T n u e).2.1 with _ | ⟨k, q⟩
        ·
          refine lk_getIv (v := 0) (f := 12) dX8_dry_60 rfl fX8_311 (by decide) (by decide) (by rw [lk_s3_8, lk_yS_flag σ _ (lk_day_flag hW), if_pos hj]) ?_
          refine lk_if_eq (tgt := 86) dX8_dry_63 (by decide) (fun hh6 => ?_) (fun hh6 => absurd hh6 (by decide))
          refine lk_iincN (a := i) (m := 1) (L' := [(0, lk_vr 0 0), (1, lk_vi (nI (u))), (2, lk_vi (nI (e))), (3, lk_vi 0), (4, lk_vi (nI (i + 1)))]) dX8_dry_86 rfl rfl (by decide +kernel) rfl ?_
          refine lk_goto (tgt := 39) dX8_dry_89 (by decide) ?_
          rw [show 41 - i = (41 - (i + 1)) + 1 by omega, lk_drf, hj] at hI
          exact ih (i + 1) _ _ _ (by omega) (lk_day_cok hW) hI (by omega)
        ·
          refine lk_getIv (v := 1) (f := 12) dX8_dry_60 rfl fX8_311 (by decide) (by decide) (by rw [lk_s3_8, lk_yS_flag σ _ (lk_day_flag hW), if_neg (by rw [hj]; simp)]) ?_
          refine lk_if_eq (tgt := 86) dX8_dry_63 (by decide) (fun hh7 => absurd hh7 (by decide)) (fun hh7 => ?_)
          refine lk_iload_n dX8_dry_66 rfl rfl ?_
          refine lk_if_ne (tgt := 75) dX8_dry_67 (by decide) (fun hh8 => absurd hh8 (by decide)) (fun hh8 => ?_)
          refine lk_iload dX8_dry_70 rfl ?_
          refine lk_goto (tgt := 85) dX8_dry_72 (by decide) ?_
          refine lk_iret .int dX8_dry_85 rfl rfl ?_
          rw [hQ]
          rw [show 41 - i = (41 - (i + 1)) + 1 by omega, lk_drf, hj] at hI
          rw [hI]
          exact ⟨rfl, rfl, (lk_fl (lk_day V T n u e).2, (lk_day V T n u e).2.2.2, lk_fK K (lk_day V T n u e).2), rfl⟩
  exact LP39 42 0 _ _ _ (Nat.zero_le _) (lk_im_cok hV) (by rw [hR]; exact lk_drf_c hV.2.2.1 41 0 (lk_eqr_sy (lk_eqr_im (σ 2) (σ 8))) (fun _ _ => rfl)) (by omega)

set_option maxHeartbeats 1000000 in
set_option maxRecDepth 100000 in
theorem tX8_dry_1 (l : Launch) (X : lk_G) (d : Nat) (σ : lk_N) (τ : lk_T) (n : Nat) (hV : lk_cok (σ 2) n) (u e : Nat) (hu : u ≤ 4) (he : e ≤ 4) (h01 : ∀ k, k < 6 → σ 2 5 k = 0 ∨ σ 2 5 k = 1) : lk_Mt l X mX8_dry (d + 5) [lk_vr 0 0, lk_vi (nI (u)), lk_vi (nI (e)), lk_vi 1] σ τ (fun rr σ1 τ1 => rr = some (lk_vi (match lk_drf n u e 41 0 (σ 2) (σ 3) with | some p => nI p.2 | none => -2)) ∧ τ1 = τ ∧ ∃ W : lk_O × lk_O × lk_O, σ1 = lk_s3 σ W.1 W.2.1 W.2.2) := by
  refine lk_met (L := [(0, lk_vr 0 0), (1, lk_vi (nI (u))), (2, lk_vi (nI (e))), (3, lk_vi 1)]) (by decide +kernel) (Nat.le_of_ble_eq_true rfl) rfl ?_
  obtain ⟨Q, hQ⟩ : ∃ Q : lk_Q, Q = fun rr σ1 τ1 => rr = some (lk_vi (match lk_drf n u e 41 0 (σ 2) (σ 3) with | some p => nI p.2 | none => -2)) ∧ τ1 = τ ∧ ∃ W : lk_O × lk_O × lk_O, σ1 = lk_s3 σ W.1 W.2.1 W.2.2 := ⟨_, rfl⟩
  rw [← hQ]
  obtain ⟨R, hR⟩ : ∃ R, R = lk_drf n u e 41 0 (σ 2) (σ 3) := ⟨_, rfl⟩
  rw [← hR] at hQ
  refine lk_iload_n dX8_dry_0 rfl rfl ?_
  refine lk_callS (as := [lk_vi (nI (u))]) (S := []) dX8_dry_1 rfl vX8_isTraffic rfl lX8_305 (Nat.le_of_ble_eq_true rfl) (tX8_isTraffic l X (d + 4) σ τ (v := (nI (u))) ) ?_
  refine lk_k3 ?_
  refine lk_cast (pc' := 4) (S' := [lk_vi (if 0 ≤ (nI (u)) ∧ (nI (u)) ≤ 4 then 1 else 0)]) rfl rfl rfl ?_
  refine lk_if_eqB (tgt := 23) dX8_dry_4 (by decide) (fun hh1 => absurd hh1 (by intro q; exact q (lk_tr hu))) (fun hh1 => ?_)
  refine lk_iload_n dX8_dry_7 rfl rfl ?_
  refine lk_callS (as := [lk_vi (nI (e))]) (S := []) dX8_dry_8 rfl vX8_isTraffic rfl lX8_305 (Nat.le_of_ble_eq_true rfl) (tX8_isTraffic l X (d + 4) σ τ (v := (nI (e))) ) ?_
  refine lk_k3 ?_
  refine lk_cast (pc' := 11) (S' := [lk_vi (if 0 ≤ (nI (e)) ∧ (nI (e)) ≤ 4 then 1 else 0)]) rfl rfl rfl ?_
  refine lk_if_eqB (tgt := 23) dX8_dry_11 (by decide) (fun hh2 => absurd hh2 (by intro q; exact q (lk_tr he))) (fun hh2 => ?_)
  refine lk_iload_n dX8_dry_14 rfl rfl ?_
  refine lk_if_lt (tgt := 23) dX8_dry_15 (by decide) (fun hh3 => absurd hh3 (by decide)) (fun hh3 => ?_)
  refine lk_iload_n dX8_dry_18 rfl rfl ?_
  refine lk_iconst (v := 1) dX8_dry_19 (by decide) ?_
  refine lk_icmp_leN (a := 1) (b := 1) (tgt := 25) dX8_dry_20 (by decide) (by omega) (by omega) (fun hh4 => ?_) (fun hh4 => absurd hh4 (by decide))
  refine lk_aload_n dX8_dry_25 rfl rfl ?_
  refine lk_getO (f := 8) (o' := 8) dX8_dry_26 rfl fX8_38 (by decide) (by decide) rfl ?_
  refine lk_aload_n dX8_dry_29 rfl rfl ?_
  refine lk_getO (f := 0) (o' := 2) dX8_dry_30 rfl fX8_14 (by decide) (by decide) rfl ?_
  refine lk_callV (o := 8) (as := [lk_vr 2 0]) (S := []) dX8_dry_33 rfl vX0_copyFrom rfl lX8_210 rfl rfl (Nat.le_of_ble_eq_true rfl) (tX0_copyFrom l X (d + 1) σ τ (c := 8) (o := 2) (hc := rfl) (ho := rfl) (hco := by decide) (h01 := h01)) ?_
  refine lk_k3 ?_
  refine lk_cast (pc' := 36) (S' := []) rfl rfl rfl ?_
  refine lk_sg (σ' := lk_s3 σ (lk_im (σ 2) (σ 8)) (σ 3) (σ 10)) (lk_s3_cp0 σ _ _).symm ?_
  refine lk_iconst (v := 0) dX8_dry_36 (by decide) ?_
  refine lk_istore (L' := [(0, lk_vr 0 0), (1, lk_vi (nI (u))), (2, lk_vi (nI (e))), (3, lk_vi 1), (4, lk_vi 0)]) dX8_dry_37 (by decide +kernel) rfl ?_
  have LP39 : ∀ (fu : Nat) (i : Nat) (V T K : lk_O), i ≤ 41 → lk_cok V n → R = lk_drf n u e (41 - i) i V T → 41 - i < fu → lk_W l X mX8_dry (d + 5) 39 [(0, lk_vr 0 0), (1, lk_vi (nI (u))), (2, lk_vi (nI (e))), (3, lk_vi 1), (4, lk_vi (nI (i)))] [] (lk_s3 σ V T K) τ Q := by
    intro fu
    induction fu with
    | zero => intro i V T K hi hW hI hfu; exact absurd hfu (by omega)
    | succ fu ih =>
      intro i V T K hi hW hI hfu
      refine lk_iload dX8_dry_39 rfl ?_
      refine lk_bipush (v := 40) dX8_dry_41 (by decide) ?_
      refine lk_icmp_gtN (a := i) (b := 40) (tgt := 92) dX8_dry_43 (by decide) (by omega) (by omega) (fun hh5 => ?_) (fun hh5 => ?_)
      ·
        refine lk_bipush (v := (-2)) dX8_dry_92 (by decide) ?_
        refine lk_iret .int dX8_dry_94 rfl rfl ?_
        rw [hQ]
        rw [show 41 - i = 0 by omega, lk_drf] at hI
        rw [hI]
        exact ⟨rfl, rfl, (V, T, K), rfl⟩
      ·
        refine lk_aload_n dX8_dry_46 rfl rfl ?_
        refine lk_getO (f := 8) (o' := 8) dX8_dry_47 rfl fX8_38 (by decide) (by decide) rfl ?_
        refine lk_iload_n dX8_dry_50 rfl rfl ?_
        refine lk_iload_n dX8_dry_51 rfl rfl ?_
        refine lk_callV (o := 8) (as := [lk_vi (nI (u)), lk_vi (nI (e))]) (S := []) dX8_dry_52 rfl vX0_wholeDay rfl lX8_308 rfl rfl (Nat.le_of_ble_eq_true rfl) (tX0_wholeDay l X d (lk_s3 σ V T K) τ (c := 8) (u := (u)) (e := (e)) (hc := rfl) (n := n) (hV := by rw [lk_s3_8]; exact hW) (hu := hu) (he := he)) ?_
        refine lk_k3 ?_
        refine lk_cast (pc' := 55) (S' := [lk_vi (nI ((lk_day ((lk_s3 σ V T K) 8) ((lk_s3 σ V T K) (8 + 1)) n (u) (e)).1))]) rfl rfl rfl ?_
        refine lk_sg (σ' := lk_s3 σ (lk_fl (lk_day V T n u e).2) (lk_day V T n u e).2.2.2 (lk_fK K (lk_day V T n u e).2)) (by rw [← lk_s3_yS σ V T K]; simp only [Nat.reduceAdd, lk_s3_8, lk_s3_9]) ?_
        refine lk_pop dX8_dry_55 rfl ?_
        refine lk_aload_n dX8_dry_56 rfl rfl ?_
        refine lk_getO (f := 8) (o' := 8) dX8_dry_57 rfl fX8_38 (by decide) (by decide) rfl ?_
        rcases hj : (lk_day V T n u e).2.1 with _ | ⟨k, q⟩
        ·
          refine lk_getIv (v := 0) (f := 12) dX8_dry_60 rfl fX8_311 (by decide) (by decide) (by rw [lk_s3_8, lk_yS_flag σ _ (lk_day_flag hW), if_pos hj]) ?_
          refine lk_if_eq (tgt := 86) dX8_dry_63 (by decide) (fun hh6 => ?_) (fun hh6 => absurd hh6 (by decide))
          refine lk_iincN (a := i) (m := 1) (L' := [(0, lk_vr 0 0), (1, lk_vi (nI (u))), (2, lk_vi (nI (e))), (3, lk_vi 1), (4, lk_vi (nI (i + 1)))]) dX8_dry_86 rfl rfl (by decide +kernel) rfl ?_
          refine lk_goto (tgt := 39) dX8_dry_89 (by decide) ?_
          rw [show 41 - i = (41 - (i + 1)) + 1 by omega, lk_drf, hj] at hI
          exact ih (i + 1) _ _ _ (by omega) (lk_day_cok hW) hI (by omega)
        ·
          refine lk_getIv (v := 1) (f := 12) dX8_dry_60 rfl fX8_311 (by decide) (by decide) (by rw [lk_s3_8, lk_yS_flag σ _ (lk_day_flag hW), if_neg (by rw [hj]; simp)]) ?_
          refine lk_if_eq (tgt := 86) dX8_dry_63 (by decide) (fun hh7 => absurd hh7 (by decide)) (fun hh7 => ?_)
          refine lk_iload_n dX8_dry_66 rfl rfl ?_
          refine lk_if_ne (tgt := 75) dX8_dry_67 (by decide) (fun hh8 => ?_) (fun hh8 => absurd hh8 (by decide))
          refine lk_aload_n dX8_dry_75 rfl rfl ?_
          refine lk_getO (f := 8) (o' := 8) dX8_dry_76 rfl fX8_38 (by decide) (by decide) rfl ?_
          refine lk_getO (f := 11) (o' := 10) dX8_dry_79 rfl fX8_216 (by decide) (by decide) rfl ?_
          refine lk_getIv (v := (nI (k))) (f := 1) dX8_dry_82 rfl fX8_315 (by decide) (by decide) (by rw [lk_s3_10]; simp [lk_fK, hj, lk_kau, lk_ou]) ?_
          refine lk_iret .int dX8_dry_85 rfl rfl ?_
          rw [hQ]
          rw [show 41 - i = (41 - (i + 1)) + 1 by omega, lk_drf, hj] at hI
          rw [hI]
          exact ⟨rfl, rfl, (lk_fl (lk_day V T n u e).2, (lk_day V T n u e).2.2.2, lk_fK K (lk_day V T n u e).2), rfl⟩
  exact LP39 42 0 _ _ _ (Nat.zero_le _) (lk_im_cok hV) (by rw [hR]; exact lk_drf_c hV.2.2.1 41 0 (lk_eqr_sy (lk_eqr_im (σ 2) (σ 8))) (fun _ _ => rfl)) (by omega)

set_option maxHeartbeats 1000000 in
set_option maxRecDepth 100000 in
theorem tX8_image (l : Launch) (X : lk_G) (d : Nat) (σ : lk_N) (τ : lk_T) (nf : Nat) (hn : σ 11 5 0 = nI nf) (h01 : ∀ k, k < 6 → σ 2 5 k = 0 ∨ σ 2 5 k = 1) (hf01 : ∀ i, i < 22 → σ 11 3 i = 0 ∨ σ 11 3 i = 1) : lk_Mt l X mX8_image (d + 4) [lk_vr 0 0] σ τ (fun rr σ1 τ1 => rr = some (lk_vi (nI (nf))) ∧ σ1 = lk_img σ ∧ τ1 = lk_ut τ 0 6 (τ 0 3)) := by
  refine lk_met (L := [(0, lk_vr 0 0)]) (by decide +kernel) (Nat.le_of_ble_eq_true rfl) rfl ?_
  obtain ⟨Q, hQ⟩ : ∃ Q : lk_Q, Q = fun rr σ1 τ1 => rr = some (lk_vi (nI (nf))) ∧ σ1 = lk_img σ ∧ τ1 = lk_ut τ 0 6 (τ 0 3) := ⟨_, rfl⟩
  rw [← hQ]
  refine lk_aload_n dX8_image_0 rfl rfl ?_
  refine lk_getO (f := 4) (o' := 5) dX8_image_1 rfl fX8_32 (by decide) (by decide) rfl ?_
  refine lk_aload_n dX8_image_4 rfl rfl ?_
  refine lk_getO (f := 0) (o' := 2) dX8_image_5 rfl fX8_14 (by decide) (by decide) rfl ?_
  refine lk_callV (o := 5) (as := [lk_vr 2 0]) (S := []) dX8_image_8 rfl vX0_copyFrom rfl lX8_210 rfl rfl (Nat.le_of_ble_eq_true rfl) (tX0_copyFrom l X d σ τ (c := 5) (o := 2) (hc := rfl) (ho := rfl) (hco := by decide) (h01 := h01)) ?_
  refine lk_k3 ?_
  refine lk_cast (pc' := 11) (S' := []) rfl rfl rfl ?_
  refine lk_aload_n dX8_image_11 rfl rfl ?_
  refine lk_getO (f := 5) (o' := 13) dX8_image_12 rfl fX8_35 (by decide) (by decide) rfl ?_
  refine lk_aload_n dX8_image_15 rfl rfl ?_
  refine lk_getO (f := 1) (o' := 11) dX8_image_16 rfl fX8_21 (by decide) (by decide) rfl ?_
  refine lk_callV (o := 13) (as := [lk_vr 11 0]) (S := []) dX8_image_19 rfl vX2_copyFrom rfl lX8_140 rfl rfl (Nat.le_of_ble_eq_true rfl) (tX2_copyFrom l X (d + 1) (lk_so (lk_so σ 5 (lk_im (σ 2) (σ 5))) (5 + 1) (σ (2 + 1))) τ (f := 13) (o := 11) (hf := rfl) (ho := rfl) (hfo := by decide) (h01 := by simp [lk_so]; exact hf01)) ?_
  refine lk_k3 ?_
  refine lk_cast (pc' := 22) (S' := []) rfl rfl rfl ?_
  refine lk_aload_n dX8_image_22 rfl rfl ?_
  refine lk_aload_n dX8_image_23 rfl rfl ?_
  refine lk_getL (f := 3) dX8_image_24 rfl fX8_347 (by decide) (by decide) ?_
  refine lk_putL (f := 6) dX8_image_27 rfl fX8_351 (by decide) (by decide) ?_
  refine lk_aload_n dX8_image_30 rfl rfl ?_
  refine lk_iconst (v := 1) dX8_image_31 (by decide) ?_
  refine lk_putZ (f := 7) dX8_image_32 rfl fX8_354 (by decide) (by decide) (by decide) ?_
  refine lk_aload_n dX8_image_35 rfl rfl ?_
  refine lk_getO (f := 1) (o' := 11) dX8_image_36 rfl fX8_21 (by decide) (by decide) rfl ?_
  refine lk_getIv (v := (nI (nf))) (f := 5) dX8_image_39 rfl fX8_76 (by decide) (by decide) (by simp [lk_up, lk_so, hn]) ?_
  refine lk_iret .int dX8_image_42 rfl rfl ?_
  rw [hQ]
  refine ⟨rfl, ?_, rfl⟩
  funext a f i
  simp only [lk_img, lk_up, lk_so]
  grind

set_option maxHeartbeats 1000000 in
set_option maxRecDepth 100000 in
theorem tX8_undo_no (l : Launch) (X : lk_G) (d : Nat) (σ : lk_N) (τ : lk_T) (h : σ 0 7 0 = 0) : lk_Mt l X mX8_undo (d + 4) [lk_vr 0 0] σ τ (fun rr σ1 τ1 => rr = some (lk_vi (-5)) ∧ σ1 = σ ∧ τ1 = τ) := by
  refine lk_met (L := [(0, lk_vr 0 0)]) (by decide +kernel) (Nat.le_of_ble_eq_true rfl) rfl ?_
  obtain ⟨Q, hQ⟩ : ∃ Q : lk_Q, Q = fun rr σ1 τ1 => rr = some (lk_vi (-5)) ∧ σ1 = σ ∧ τ1 = τ := ⟨_, rfl⟩
  rw [← hQ]
  refine lk_aload_n dX8_undo_0 rfl rfl ?_
  refine lk_getIv (v := 0) (f := 7) dX8_undo_1 rfl fX8_354 (by decide) (by decide) h ?_
  refine lk_if_ne (tgt := 10) dX8_undo_4 (by decide) (fun hh1 => absurd hh1 (by decide)) (fun hh1 => ?_)
  refine lk_bipush (v := (-5)) dX8_undo_7 (by decide) ?_
  refine lk_iret .int dX8_undo_9 rfl rfl ?_
  rw [hQ]
  exact ⟨by first | rfl | (simp [*]; done) | (simp_all; done) | grind, by first | rfl | (simp [*]; done), rfl⟩

set_option maxHeartbeats 1000000 in
set_option maxRecDepth 100000 in
theorem tX8_undo_ok (l : Launch) (X : lk_G) (d : Nat) (σ : lk_N) (τ : lk_T) (nf : Nat) (h : σ 0 7 0 = 1) (hn : σ 13 5 0 = nI nf) (h01 : ∀ k, k < 6 → σ 5 5 k = 0 ∨ σ 5 5 k = 1) (hf01 : ∀ i, i < 22 → σ 13 3 i = 0 ∨ σ 13 3 i = 1) : lk_Mt l X mX8_undo (d + 4) [lk_vr 0 0] σ τ (fun rr σ1 τ1 => rr = some (lk_vi (nI (nf))) ∧ σ1 = lk_und σ ∧ τ1 = lk_ut τ 0 3 (τ 0 6)) := by
  refine lk_met (L := [(0, lk_vr 0 0)]) (by decide +kernel) (Nat.le_of_ble_eq_true rfl) rfl ?_
  obtain ⟨Q, hQ⟩ : ∃ Q : lk_Q, Q = fun rr σ1 τ1 => rr = some (lk_vi (nI (nf))) ∧ σ1 = lk_und σ ∧ τ1 = lk_ut τ 0 3 (τ 0 6) := ⟨_, rfl⟩
  rw [← hQ]
  refine lk_aload_n dX8_undo_0 rfl rfl ?_
  refine lk_getIv (v := 1) (f := 7) dX8_undo_1 rfl fX8_354 (by decide) (by decide) h ?_
  refine lk_if_ne (tgt := 10) dX8_undo_4 (by decide) (fun hh1 => ?_) (fun hh1 => absurd hh1 (by decide))
  refine lk_aload_n dX8_undo_10 rfl rfl ?_
  refine lk_getO (f := 0) (o' := 2) dX8_undo_11 rfl fX8_14 (by decide) (by decide) rfl ?_
  refine lk_aload_n dX8_undo_14 rfl rfl ?_
  refine lk_getO (f := 4) (o' := 5) dX8_undo_15 rfl fX8_32 (by decide) (by decide) rfl ?_
  refine lk_callV (o := 2) (as := [lk_vr 5 0]) (S := []) dX8_undo_18 rfl vX0_copyFrom rfl lX8_210 rfl rfl (Nat.le_of_ble_eq_true rfl) (tX0_copyFrom l X d σ τ (c := 2) (o := 5) (hc := rfl) (ho := rfl) (hco := by decide) (h01 := h01)) ?_
  refine lk_k3 ?_
  refine lk_cast (pc' := 21) (S' := []) rfl rfl rfl ?_
  refine lk_aload_n dX8_undo_21 rfl rfl ?_
  refine lk_getO (f := 1) (o' := 11) dX8_undo_22 rfl fX8_21 (by decide) (by decide) rfl ?_
  refine lk_aload_n dX8_undo_25 rfl rfl ?_
  refine lk_getO (f := 5) (o' := 13) dX8_undo_26 rfl fX8_35 (by decide) (by decide) rfl ?_
  refine lk_callV (o := 11) (as := [lk_vr 13 0]) (S := []) dX8_undo_29 rfl vX2_copyFrom rfl lX8_140 rfl rfl (Nat.le_of_ble_eq_true rfl) (tX2_copyFrom l X (d + 1) (lk_so (lk_so σ 2 (lk_im (σ 5) (σ 2))) (2 + 1) (σ (5 + 1))) τ (f := 11) (o := 13) (hf := rfl) (ho := rfl) (hfo := by decide) (h01 := by simp [lk_so]; exact hf01)) ?_
  refine lk_k3 ?_
  refine lk_cast (pc' := 32) (S' := []) rfl rfl rfl ?_
  refine lk_aload_n dX8_undo_32 rfl rfl ?_
  refine lk_aload_n dX8_undo_33 rfl rfl ?_
  refine lk_getL (f := 6) dX8_undo_34 rfl fX8_351 (by decide) (by decide) ?_
  refine lk_putL (f := 3) dX8_undo_37 rfl fX8_347 (by decide) (by decide) ?_
  refine lk_aload_n dX8_undo_40 rfl rfl ?_
  refine lk_getO (f := 1) (o' := 11) dX8_undo_41 rfl fX8_21 (by decide) (by decide) rfl ?_
  refine lk_getIv (v := (nI (nf))) (f := 5) dX8_undo_44 rfl fX8_76 (by decide) (by decide) (by simp [lk_so, hn]) ?_
  refine lk_iret .int dX8_undo_47 rfl rfl ?_
  rw [hQ]
  refine ⟨rfl, ?_, rfl⟩
  funext a f i
  simp only [lk_und, lk_so]
  grind
