theorem lk_shiB_0 (B : lk_O) (n : Nat) : lk_shi B n n = B := by
  funext f j
  simp only [lk_shi]
  rw [if_neg (by omega)]
def lk_frA (B : lk_O) (p : Nat) (r : Nat → Int32) (x : Nat) : lk_O := fun f i => if f < x ∧ i = p then r f else B f i
theorem lk_frA_0 (B : lk_O) (p : Nat) (r : Nat → Int32) : lk_frA B p r 0 = B := by funext f i; simp [lk_frA]
theorem lk_frA_s (B : lk_O) (p : Nat) (r : Nat → Int32) (x : Nat) : lk_ou (lk_frA B p r x) x p (r x) = lk_frA B p r (x + 1) := by
  funext f i
  simp only [lk_ou, lk_frA]
  grind
set_option maxHeartbeats 1000000 in
set_option maxRecDepth 100000 in
theorem tX9_where (l : Launch) (X : lk_G) (d : Nat) (σ : lk_N) (τ : lk_T) (B : lk_O) (nf : Nat) (hn : B 5 0 = nI nf) (hn12 : nf ≤ 12) (w : Int32) : lk_Mt l X mX9_where d [lk_vr 1 0, lk_vi (w)] (lk_mb σ B) τ (fun rr σ1 τ1 => rr = some (lk_vi (nI (lk_fpl B w nf 0))) ∧ σ1 = (lk_mb σ B) ∧ τ1 = τ) := by
  refine lk_met (L := [(0, lk_vr 1 0), (1, lk_vi (w))]) (by decide +kernel) (Nat.le_of_ble_eq_true rfl) rfl ?_
  obtain ⟨Q, hQ⟩ : ∃ Q : lk_Q, Q = fun rr σ1 τ1 => rr = some (lk_vi (nI (lk_fpl B w nf 0))) ∧ σ1 = (lk_mb σ B) ∧ τ1 = τ := ⟨_, rfl⟩
  rw [← hQ]
  obtain ⟨R, hR⟩ : ∃ R, R = lk_fpl B w nf 0 := ⟨_, rfl⟩
  refine lk_iconst (v := 0) dX9_where_0 (by decide) ?_
  refine lk_istore_n (L' := [(0, lk_vr 1 0), (1, lk_vi (w)), (2, lk_vi 0)]) dX9_where_1 rfl (by decide +kernel) rfl ?_
  have LP2 : ∀ (fu : Nat) (b : Nat), b ≤ nf → R = lk_fpl B w (nf - b) b → nf - b < fu → lk_W l X mX9_where d 2 [(0, lk_vr 1 0), (1, lk_vi (w)), (2, lk_vi (nI (b)))] [] (lk_mb σ B) τ Q := by
    intro fu
    induction fu with
    | zero => intro b hb hI hfu; exact absurd hfu (by omega)
    | succ fu ih =>
      intro b hb hI hfu
      refine lk_iload_n dX9_where_2 rfl rfl ?_
      refine lk_aload_n dX9_where_3 rfl rfl ?_
      refine lk_getR (f := 0) dX9_where_4 rfl fX9_9 (by decide) (by decide) ?_
      refine lk_bipush (v := 114) dX9_where_7 (by decide) ?_
      refine lk_ialdN (f := 0) (i := 114) dX9_where_9 rfl (by decide) rfl (by omega) (by decide) ?_
      refine lk_eqtop (y := (nI (nf))) (lk_br5.trans hn) ?_
      refine lk_icmp_geN (a := b) (b := nf) (tgt := 32) dX9_where_10 (by decide) (by omega) (by omega) (fun hh1 => ?_) (fun hh1 => ?_)
      ·
        refine lk_iload_n dX9_where_32 rfl rfl ?_
        refine lk_iret .int dX9_where_33 rfl rfl ?_
        rw [hQ]
        have e : R = b := by
          rcases Nat.lt_or_ge b nf with q | q
          · rw [show nf - b = (nf - (b + 1)) + 1 by omega, lk_fpl, if_neg (by first | exact Int32.not_lt.mpr (by assumption) | (exfalso; omega))] at hI
            exact hI
          · rw [show nf - b = 0 by omega] at hI; exact hI
        rw [← hR, e]
        exact ⟨rfl, rfl, rfl⟩
      ·
        refine lk_aload_n dX9_where_13 rfl rfl ?_
        refine lk_getR (f := 0) dX9_where_14 rfl fX9_9 (by decide) (by decide) ?_
        refine lk_bipush (v := 54) dX9_where_17 (by decide) ?_
        refine lk_iload_n dX9_where_19 rfl rfl ?_
        refine lk_iaddN (a := 54) (b := b) dX9_where_20 ?_
        refine lk_ialdN (f := 0) (i := 54 + b) dX9_where_21 rfl (by decide) rfl (by omega) (by decide) ?_
        refine lk_eqtop (y := (B (0) (b))) (lk_br (by omega) (by omega) (by omega)) ?_
        refine lk_iload_n dX9_where_22 rfl rfl ?_
        refine lk_icmp_ge (tgt := 32) dX9_where_23 (by decide) (fun hh2 => ?_) (fun hh2 => ?_)
        ·
          refine lk_iload_n dX9_where_32 rfl rfl ?_
          refine lk_iret .int dX9_where_33 rfl rfl ?_
          rw [hQ]
          have e : R = b := by
            rcases Nat.lt_or_ge b nf with q | q
            · rw [show nf - b = (nf - (b + 1)) + 1 by omega, lk_fpl, if_neg (by first | exact Int32.not_lt.mpr (by assumption) | (exfalso; omega))] at hI
              exact hI
            · rw [show nf - b = 0 by omega] at hI; exact hI
          rw [← hR, e]
          exact ⟨rfl, rfl, rfl⟩
        ·
          refine lk_iincN (a := b) (m := 1) (L' := [(0, lk_vr 1 0), (1, lk_vi (w)), (2, lk_vi (nI (b + 1)))]) dX9_where_26 rfl rfl (by decide +kernel) rfl ?_
          refine lk_goto (tgt := 2) dX9_where_29 (by decide) ?_
          rw [show nf - b = (nf - (b + 1)) + 1 by omega, lk_fpl, if_pos (by first | assumption | exact Int32.not_le.mp (by assumption))] at hI
          exact ih (b + 1) (by omega) hI (by omega)
  exact LP2 (nf + 1) 0 (by omega) hR (by omega)

set_option maxHeartbeats 1000000 in
set_option maxRecDepth 100000 in
theorem tX9_isThere (l : Launch) (X : lk_G) (d : Nat) (σ : lk_N) (τ : lk_T) (B : lk_O) (nf : Nat) (hn : B 5 0 = nI nf) (hn12 : nf ≤ 12) (b : Nat) (w : Int32) (hb : b = lk_fpl B w nf 0) (hb12 : b ≤ 12) : lk_Mt l X mX9_isThere d [lk_vr 1 0, lk_vi (nI (b)), lk_vi (w)] (lk_mb σ B) τ (fun rr σ1 τ1 => rr = some (lk_vi (if lk_fold B nf w = true then 1 else 0)) ∧ σ1 = (lk_mb σ B) ∧ τ1 = τ) := by
  refine lk_met (L := [(0, lk_vr 1 0), (1, lk_vi (nI (b))), (2, lk_vi (w))]) (by decide +kernel) (Nat.le_of_ble_eq_true rfl) rfl ?_
  obtain ⟨Q, hQ⟩ : ∃ Q : lk_Q, Q = fun rr σ1 τ1 => rr = some (lk_vi (if lk_fold B nf w = true then 1 else 0)) ∧ σ1 = (lk_mb σ B) ∧ τ1 = τ := ⟨_, rfl⟩
  rw [← hQ]
  refine lk_iload_n dX9_isThere_0 rfl rfl ?_
  refine lk_aload_n dX9_isThere_1 rfl rfl ?_
  refine lk_getR (f := 0) dX9_isThere_2 rfl fX9_9 (by decide) (by decide) ?_
  refine lk_bipush (v := 114) dX9_isThere_5 (by decide) ?_
  refine lk_ialdN (f := 0) (i := 114) dX9_isThere_7 rfl (by decide) rfl (by omega) (by decide) ?_
  refine lk_eqtop (y := (nI (nf))) (lk_br5.trans hn) ?_
  refine lk_icmp_geN (a := b) (b := nf) (tgt := 28) dX9_isThere_8 (by decide) (by omega) (by omega) (fun hh1 => ?_) (fun hh1 => ?_)
  ·
    refine lk_iconst (v := 0) dX9_isThere_28 (by decide) ?_
    refine lk_iret .boolean dX9_isThere_29 rfl rfl ?_
    rw [hQ]
    refine ⟨?_, rfl, rfl⟩
    have e : lk_fold B nf w = (decide (b < nf) && decide (B 0 b = w)) := by rw [hb]; rfl
    first
      | rw [if_pos (by rw [e]; simp; exact ⟨by omega, by first | assumption | exact Decidable.not_not.mp (by assumption)⟩)]
      | rw [if_neg (by rw [e]; simp; intro q; first | (exfalso; omega) | assumption)]
  ·
    refine lk_aload_n dX9_isThere_11 rfl rfl ?_
    refine lk_getR (f := 0) dX9_isThere_12 rfl fX9_9 (by decide) (by decide) ?_
    refine lk_bipush (v := 54) dX9_isThere_15 (by decide) ?_
    refine lk_iload_n dX9_isThere_17 rfl rfl ?_
    refine lk_iaddN (a := 54) (b := b) dX9_isThere_18 ?_
    refine lk_ialdN (f := 0) (i := 54 + b) dX9_isThere_19 rfl (by decide) rfl (by omega) (by decide) ?_
    refine lk_eqtop (y := (B (0) (b))) (lk_br (by omega) (by omega) (by omega)) ?_
    refine lk_iload_n dX9_isThere_20 rfl rfl ?_
    refine lk_icmp_ne (tgt := 28) dX9_isThere_21 (by decide) (fun hh2 => ?_) (fun hh2 => ?_)
    ·
      refine lk_iconst (v := 0) dX9_isThere_28 (by decide) ?_
      refine lk_iret .boolean dX9_isThere_29 rfl rfl ?_
      rw [hQ]
      refine ⟨?_, rfl, rfl⟩
      have e : lk_fold B nf w = (decide (b < nf) && decide (B 0 b = w)) := by rw [hb]; rfl
      first
        | rw [if_pos (by rw [e]; simp; exact ⟨by omega, by first | assumption | exact Decidable.not_not.mp (by assumption)⟩)]
        | rw [if_neg (by rw [e]; simp; intro q; first | (exfalso; omega) | assumption)]
    ·
      refine lk_iconst (v := 1) dX9_isThere_24 (by decide) ?_
      refine lk_goto (tgt := 29) dX9_isThere_25 (by decide) ?_
      refine lk_iret .boolean dX9_isThere_29 rfl rfl ?_
      rw [hQ]
      refine ⟨?_, rfl, rfl⟩
      have e : lk_fold B nf w = (decide (b < nf) && decide (B 0 b = w)) := by rw [hb]; rfl
      first
        | rw [if_pos (by rw [e]; simp; exact ⟨by omega, by first | assumption | exact Decidable.not_not.mp (by assumption)⟩)]
        | rw [if_neg (by rw [e]; simp; intro q; first | (exfalso; omega) | assumption)]

set_option maxHeartbeats 1000000 in
set_option maxRecDepth 100000 in
theorem tX9_comes_full (l : Launch) (X : lk_G) (d : Nat) (σ : lk_N) (τ : lk_T) (B : lk_O) (nf : Nat) (hn : B 5 0 = nI nf) (hn12 : nf ≤ 12) (k : Nat) (hk : k ≤ 11) (r : Nat → Int32) (hr : ∀ f, f < 5 → σ 1 16 (5 * k + f) = r f) (h : lk_fold B nf (r 0) = false) (h12 : nf = 12) : lk_Mt l X mX9_comes (d + 1) [lk_vr 1 0, lk_vi (nI (k))] (lk_mb σ B) τ (fun rr σ1 τ1 => rr = some (lk_vi 0) ∧ σ1 = (lk_mb σ B) ∧ τ1 = τ) := by
  refine lk_met (L := [(0, lk_vr 1 0), (1, lk_vi (nI (k)))]) (by decide +kernel) (Nat.le_of_ble_eq_true rfl) rfl ?_
  obtain ⟨Q, hQ⟩ : ∃ Q : lk_Q, Q = fun rr σ1 τ1 => rr = some (lk_vi 0) ∧ σ1 = (lk_mb σ B) ∧ τ1 = τ := ⟨_, rfl⟩
  rw [← hQ]
  have hple : lk_fpl B (r 0) nf 0 ≤ nf := Nat.le_trans (lk_fpl_le B (r 0) nf 0) (by omega)
  refine lk_aload_n dX9_comes_0 rfl rfl ?_
  refine lk_aload_n dX9_comes_1 rfl rfl ?_
  refine lk_getR (f := 16) dX9_comes_2 rfl fX9_27 (by decide) (by decide) ?_
  refine lk_iconst (v := 5) dX9_comes_5 (by decide) ?_
  refine lk_iload_n dX9_comes_6 rfl rfl ?_
  refine lk_imulN (a := 5) (b := k) dX9_comes_7 ?_
  refine lk_ialdN (f := 16) (i := (5) * (k)) dX9_comes_8 rfl (by decide) rfl (by omega) (by decide) ?_
  refine lk_eqtop (y := (r 0)) ((lk_bn (by decide)).trans (hr 0 (by decide))) ?_
  refine lk_callV (o := 1) (as := [lk_vi (r 0)]) (S := []) dX9_comes_9 rfl vX9_where rfl lX9_92 rfl rfl (Nat.le_of_ble_eq_true rfl) (tX9_where l X d σ τ (w := (r 0)) (B := B) (nf := nf) (hn := hn) (hn12 := hn12)) ?_
  refine lk_k3 ?_
  refine lk_cast (pc' := 12) (S' := [lk_vi (nI (lk_fpl B (r 0) nf 0))]) rfl rfl rfl ?_
  refine lk_istore_n (L' := [(0, lk_vr 1 0), (1, lk_vi (nI (k))), (2, lk_vi (nI (lk_fpl B (r 0) nf 0)))]) dX9_comes_12 rfl (by decide +kernel) rfl ?_
  refine lk_aload_n dX9_comes_13 rfl rfl ?_
  refine lk_iload_n dX9_comes_14 rfl rfl ?_
  refine lk_aload_n dX9_comes_15 rfl rfl ?_
  refine lk_getR (f := 16) dX9_comes_16 rfl fX9_27 (by decide) (by decide) ?_
  refine lk_iconst (v := 5) dX9_comes_19 (by decide) ?_
  refine lk_iload_n dX9_comes_20 rfl rfl ?_
  refine lk_imulN (a := 5) (b := k) dX9_comes_21 ?_
  refine lk_ialdN (f := 16) (i := (5) * (k)) dX9_comes_22 rfl (by decide) rfl (by omega) (by decide) ?_
  refine lk_eqtop (y := (r 0)) ((lk_bn (by decide)).trans (hr 0 (by decide))) ?_
  refine lk_callV (o := 1) (as := [lk_vi (nI (lk_fpl B (r 0) nf 0)), lk_vi (r 0)]) (S := []) dX9_comes_23 rfl vX9_isThere rfl lX9_95 rfl rfl (Nat.le_of_ble_eq_true rfl) (tX9_isThere l X d σ τ (b := (lk_fpl B (r 0) nf 0)) (w := (r 0)) (B := B) (nf := nf) (hn := hn) (hn12 := hn12) (hb := rfl) (hb12 := by omega)) ?_
  refine lk_k3 ?_
  refine lk_cast (pc' := 26) (S' := [lk_vi (if lk_fold B nf (r 0) = true then 1 else 0)]) rfl rfl rfl ?_
  refine lk_if_neB (tgt := 81) dX9_comes_26 (by decide) (fun hh1 => absurd hh1 (fun q => by rw [h] at q; cases q)) (fun hh1 => ?_)
  refine lk_aload_n dX9_comes_29 rfl rfl ?_
  refine lk_getR (f := 0) dX9_comes_30 rfl fX9_9 (by decide) (by decide) ?_
  refine lk_bipush (v := 114) dX9_comes_33 (by decide) ?_
  refine lk_ialdN (f := 0) (i := 114) dX9_comes_35 rfl (by decide) rfl (by omega) (by decide) ?_
  refine lk_eqtop (y := (nI (nf))) (lk_br5.trans hn) ?_
  refine lk_bipush (v := 12) dX9_comes_36 (by decide) ?_
  refine lk_icmp_neN (a := nf) (b := 12) (tgt := 43) dX9_comes_38 (by decide) (by omega) (by omega) (fun hh2 => absurd hh2 (fun q => q h12)) (fun hh2 => ?_)
  refine lk_iconst (v := 0) dX9_comes_41 (by decide) ?_
  refine lk_iret .boolean dX9_comes_42 rfl rfl ?_
  rw [hQ]
  exact ⟨by first | rfl | (simp [*]; done) | (simp_all; done) | grind, by first | rfl | (simp [*]; done), rfl⟩

set_option maxHeartbeats 1000000 in
set_option maxRecDepth 100000 in
theorem tX9_comes_old (l : Launch) (X : lk_G) (d : Nat) (σ : lk_N) (τ : lk_T) (B : lk_O) (nf : Nat) (hn : B 5 0 = nI nf) (hn12 : nf ≤ 12) (k : Nat) (hk : k ≤ 11) (r : Nat → Int32) (hr : ∀ f, f < 5 → σ 1 16 (5 * k + f) = r f) (h : lk_fold B nf (r 0) = true) : lk_Mt l X mX9_comes (d + 1) [lk_vr 1 0, lk_vi (nI (k))] (lk_mb σ B) τ (fun rr σ1 τ1 => rr = some (lk_vi 1) ∧ σ1 = (lk_mb σ (lk_fput B nf r)) ∧ τ1 = τ) := by
  refine lk_met (L := [(0, lk_vr 1 0), (1, lk_vi (nI (k)))]) (by decide +kernel) (Nat.le_of_ble_eq_true rfl) rfl ?_
  obtain ⟨Q, hQ⟩ : ∃ Q : lk_Q, Q = fun rr σ1 τ1 => rr = some (lk_vi 1) ∧ σ1 = (lk_mb σ (lk_fput B nf r)) ∧ τ1 = τ := ⟨_, rfl⟩
  rw [← hQ]
  have hple : lk_fpl B (r 0) nf 0 ≤ nf := Nat.le_trans (lk_fpl_le B (r 0) nf 0) (by omega)
  have hp9 : lk_fpl B (r 0) nf 0 < nf := by have h2 := h; unfold lk_fold at h2; exact of_decide_eq_true (Bool.and_eq_true_iff.mp h2).1
  refine lk_aload_n dX9_comes_0 rfl rfl ?_
  refine lk_aload_n dX9_comes_1 rfl rfl ?_
  refine lk_getR (f := 16) dX9_comes_2 rfl fX9_27 (by decide) (by decide) ?_
  refine lk_iconst (v := 5) dX9_comes_5 (by decide) ?_
  refine lk_iload_n dX9_comes_6 rfl rfl ?_
  refine lk_imulN (a := 5) (b := k) dX9_comes_7 ?_
  refine lk_ialdN (f := 16) (i := (5) * (k)) dX9_comes_8 rfl (by decide) rfl (by omega) (by decide) ?_
  refine lk_eqtop (y := (r 0)) ((lk_bn (by decide)).trans (hr 0 (by decide))) ?_
  refine lk_callV (o := 1) (as := [lk_vi (r 0)]) (S := []) dX9_comes_9 rfl vX9_where rfl lX9_92 rfl rfl (Nat.le_of_ble_eq_true rfl) (tX9_where l X d σ τ (w := (r 0)) (B := B) (nf := nf) (hn := hn) (hn12 := hn12)) ?_
  refine lk_k3 ?_
  refine lk_cast (pc' := 12) (S' := [lk_vi (nI (lk_fpl B (r 0) nf 0))]) rfl rfl rfl ?_
  refine lk_istore_n (L' := [(0, lk_vr 1 0), (1, lk_vi (nI (k))), (2, lk_vi (nI (lk_fpl B (r 0) nf 0)))]) dX9_comes_12 rfl (by decide +kernel) rfl ?_
  refine lk_aload_n dX9_comes_13 rfl rfl ?_
  refine lk_iload_n dX9_comes_14 rfl rfl ?_
  refine lk_aload_n dX9_comes_15 rfl rfl ?_
  refine lk_getR (f := 16) dX9_comes_16 rfl fX9_27 (by decide) (by decide) ?_
  refine lk_iconst (v := 5) dX9_comes_19 (by decide) ?_
  refine lk_iload_n dX9_comes_20 rfl rfl ?_
  refine lk_imulN (a := 5) (b := k) dX9_comes_21 ?_
  refine lk_ialdN (f := 16) (i := (5) * (k)) dX9_comes_22 rfl (by decide) rfl (by omega) (by decide) ?_
  refine lk_eqtop (y := (r 0)) ((lk_bn (by decide)).trans (hr 0 (by decide))) ?_
  refine lk_callV (o := 1) (as := [lk_vi (nI (lk_fpl B (r 0) nf 0)), lk_vi (r 0)]) (S := []) dX9_comes_23 rfl vX9_isThere rfl lX9_95 rfl rfl (Nat.le_of_ble_eq_true rfl) (tX9_isThere l X d σ τ (b := (lk_fpl B (r 0) nf 0)) (w := (r 0)) (B := B) (nf := nf) (hn := hn) (hn12 := hn12) (hb := rfl) (hb12 := by omega)) ?_
  refine lk_k3 ?_
  refine lk_cast (pc' := 26) (S' := [lk_vi (if lk_fold B nf (r 0) = true then 1 else 0)]) rfl rfl rfl ?_
  refine lk_if_neB (tgt := 81) dX9_comes_26 (by decide) (fun hh1 => ?_) (fun hh1 => absurd hh1 (fun q => q h))
  refine lk_iconst (v := 0) dX9_comes_81 (by decide) ?_
  refine lk_istore_n (L' := [(0, lk_vr 1 0), (1, lk_vi (nI (k))), (2, lk_vi (nI (lk_fpl B (r 0) nf 0))), (3, lk_vi 0)]) dX9_comes_82 rfl (by decide +kernel) rfl ?_
  have LP83 : ∀ (fu : Nat) (x : Nat), x ≤ 5 → 5 - x < fu → lk_W l X mX9_comes (d + 1) 83 [(0, lk_vr 1 0), (1, lk_vi (nI (k))), (2, lk_vi (nI (lk_fpl B (r 0) nf 0))), (3, lk_vi (nI (x)))] [] (lk_mb σ (lk_frA B (lk_fpl B (r 0) nf 0) r x)) τ Q := by
    intro fu
    induction fu with
    | zero => intro x hx hfu; exact absurd hfu (by omega)
    | succ fu ih =>
      intro x hx hfu
      refine lk_iload_n dX9_comes_83 rfl rfl ?_
      refine lk_iconst (v := 5) dX9_comes_84 (by decide) ?_
      refine lk_icmp_geN (a := x) (b := 5) (tgt := 118) dX9_comes_85 (by decide) (by omega) (by omega) (fun hh2 => ?_) (fun hh2 => ?_)
      ·
        refine lk_iconst (v := 1) dX9_comes_118 (by decide) ?_
        refine lk_iret .boolean dX9_comes_119 rfl rfl ?_
        rw [hQ]
        have hx5 : x = 5 := by omega
        subst hx5
        exact ⟨rfl, by unfold lk_fput; rw [if_pos h]; rfl, rfl⟩
      ·
        refine lk_aload_n dX9_comes_88 rfl rfl ?_
        refine lk_getR (f := 0) dX9_comes_89 rfl fX9_9 (by decide) (by decide) ?_
        refine lk_bipush (v := 54) dX9_comes_92 (by decide) ?_
        refine lk_bipush (v := 12) dX9_comes_94 (by decide) ?_
        refine lk_iload_n dX9_comes_96 rfl rfl ?_
        refine lk_imulN (a := 12) (b := x) dX9_comes_97 ?_
        refine lk_iaddN (a := 54) (b := (12) * (x)) dX9_comes_98 ?_
        refine lk_iload_n dX9_comes_99 rfl rfl ?_
        refine lk_iaddN (a := 54 + (12) * (x)) (b := lk_fpl B (r 0) nf 0) dX9_comes_100 ?_
        refine lk_aload_n dX9_comes_101 rfl rfl ?_
        refine lk_getR (f := 16) dX9_comes_102 rfl fX9_27 (by decide) (by decide) ?_
        refine lk_iconst (v := 5) dX9_comes_105 (by decide) ?_
        refine lk_iload_n dX9_comes_106 rfl rfl ?_
        refine lk_imulN (a := 5) (b := k) dX9_comes_107 ?_
        refine lk_iload_n dX9_comes_108 rfl rfl ?_
        refine lk_iaddN (a := (5) * (k)) (b := x) dX9_comes_109 ?_
        refine lk_ialdN (f := 16) (i := (5) * (k) + x) dX9_comes_110 rfl (by decide) rfl (by omega) (by decide) ?_
        refine lk_eqtop (y := (r x)) ((lk_bn (by decide)).trans (hr x (by omega))) ?_
        refine lk_iastN (f := 0) (i := 54 + (12) * (x) + lk_fpl B (r 0) nf 0) (v := (r x)) dX9_comes_111 rfl (by decide) rfl (by omega) (by decide) ?_
        refine lk_sg (σ' := (lk_mb σ (lk_ou (lk_frA B (lk_fpl B (r 0) nf 0) r x) (x) (lk_fpl B (r 0) nf 0) (r x)))) (lk_bw (by omega) (by omega) (by omega)) ?_
        refine lk_iincN (a := x) (m := 1) (L' := [(0, lk_vr 1 0), (1, lk_vi (nI (k))), (2, lk_vi (nI (lk_fpl B (r 0) nf 0))), (3, lk_vi (nI (x + 1)))]) dX9_comes_112 rfl rfl (by decide +kernel) rfl ?_
        refine lk_goto (tgt := 83) dX9_comes_115 (by decide) ?_
        rw [lk_frA_s]
        exact ih (x + 1) (by omega) (by omega)
  refine lk_sg (σ' := lk_mb σ (lk_frA B (lk_fpl B (r 0) nf 0) r 0)) (by rw [lk_frA_0]) ?_
  exact LP83 6 0 (by omega) (by omega)

set_option maxHeartbeats 1000000 in
set_option maxRecDepth 100000 in
theorem tX9_comes_new (l : Launch) (X : lk_G) (d : Nat) (σ : lk_N) (τ : lk_T) (B : lk_O) (nf : Nat) (hn : B 5 0 = nI nf) (hn12 : nf ≤ 12) (k : Nat) (hk : k ≤ 11) (r : Nat → Int32) (hr : ∀ f, f < 5 → σ 1 16 (5 * k + f) = r f) (h : lk_fold B nf (r 0) = false) (h12 : nf < 12) : lk_Mt l X mX9_comes (d + 1) [lk_vr 1 0, lk_vi (nI (k))] (lk_mb σ B) τ (fun rr σ1 τ1 => rr = some (lk_vi 1) ∧ σ1 = (lk_mb σ (lk_fput B nf r)) ∧ τ1 = τ) := by
  refine lk_met (L := [(0, lk_vr 1 0), (1, lk_vi (nI (k)))]) (by decide +kernel) (Nat.le_of_ble_eq_true rfl) rfl ?_
  obtain ⟨Q, hQ⟩ : ∃ Q : lk_Q, Q = fun rr σ1 τ1 => rr = some (lk_vi 1) ∧ σ1 = (lk_mb σ (lk_fput B nf r)) ∧ τ1 = τ := ⟨_, rfl⟩
  rw [← hQ]
  have hple : lk_fpl B (r 0) nf 0 ≤ nf := Nat.le_trans (lk_fpl_le B (r 0) nf 0) (by omega)
  refine lk_aload_n dX9_comes_0 rfl rfl ?_
  refine lk_aload_n dX9_comes_1 rfl rfl ?_
  refine lk_getR (f := 16) dX9_comes_2 rfl fX9_27 (by decide) (by decide) ?_
  refine lk_iconst (v := 5) dX9_comes_5 (by decide) ?_
  refine lk_iload_n dX9_comes_6 rfl rfl ?_
  refine lk_imulN (a := 5) (b := k) dX9_comes_7 ?_
  refine lk_ialdN (f := 16) (i := (5) * (k)) dX9_comes_8 rfl (by decide) rfl (by omega) (by decide) ?_
  refine lk_eqtop (y := (r 0)) ((lk_bn (by decide)).trans (hr 0 (by decide))) ?_
  refine lk_callV (o := 1) (as := [lk_vi (r 0)]) (S := []) dX9_comes_9 rfl vX9_where rfl lX9_92 rfl rfl (Nat.le_of_ble_eq_true rfl) (tX9_where l X d σ τ (w := (r 0)) (B := B) (nf := nf) (hn := hn) (hn12 := hn12)) ?_
  refine lk_k3 ?_
  refine lk_cast (pc' := 12) (S' := [lk_vi (nI (lk_fpl B (r 0) nf 0))]) rfl rfl rfl ?_
  refine lk_istore_n (L' := [(0, lk_vr 1 0), (1, lk_vi (nI (k))), (2, lk_vi (nI (lk_fpl B (r 0) nf 0)))]) dX9_comes_12 rfl (by decide +kernel) rfl ?_
  refine lk_aload_n dX9_comes_13 rfl rfl ?_
  refine lk_iload_n dX9_comes_14 rfl rfl ?_
  refine lk_aload_n dX9_comes_15 rfl rfl ?_
  refine lk_getR (f := 16) dX9_comes_16 rfl fX9_27 (by decide) (by decide) ?_
  refine lk_iconst (v := 5) dX9_comes_19 (by decide) ?_
  refine lk_iload_n dX9_comes_20 rfl rfl ?_
  refine lk_imulN (a := 5) (b := k) dX9_comes_21 ?_
  refine lk_ialdN (f := 16) (i := (5) * (k)) dX9_comes_22 rfl (by decide) rfl (by omega) (by decide) ?_
  refine lk_eqtop (y := (r 0)) ((lk_bn (by decide)).trans (hr 0 (by decide))) ?_
  refine lk_callV (o := 1) (as := [lk_vi (nI (lk_fpl B (r 0) nf 0)), lk_vi (r 0)]) (S := []) dX9_comes_23 rfl vX9_isThere rfl lX9_95 rfl rfl (Nat.le_of_ble_eq_true rfl) (tX9_isThere l X d σ τ (b := (lk_fpl B (r 0) nf 0)) (w := (r 0)) (B := B) (nf := nf) (hn := hn) (hn12 := hn12) (hb := rfl) (hb12 := by omega)) ?_
  refine lk_k3 ?_
  refine lk_cast (pc' := 26) (S' := [lk_vi (if lk_fold B nf (r 0) = true then 1 else 0)]) rfl rfl rfl ?_
  refine lk_if_neB (tgt := 81) dX9_comes_26 (by decide) (fun hh1 => absurd hh1 (fun q => by rw [h] at q; cases q)) (fun hh1 => ?_)
  refine lk_aload_n dX9_comes_29 rfl rfl ?_
  refine lk_getR (f := 0) dX9_comes_30 rfl fX9_9 (by decide) (by decide) ?_
  refine lk_bipush (v := 114) dX9_comes_33 (by decide) ?_
  refine lk_ialdN (f := 0) (i := 114) dX9_comes_35 rfl (by decide) rfl (by omega) (by decide) ?_
  refine lk_eqtop (y := (nI (nf))) (lk_br5.trans hn) ?_
  refine lk_bipush (v := 12) dX9_comes_36 (by decide) ?_
  refine lk_icmp_neN (a := nf) (b := 12) (tgt := 43) dX9_comes_38 (by decide) (by omega) (by omega) (fun hh2 => ?_) (fun hh2 => absurd hh2 (by omega))
  refine lk_aload_n dX9_comes_43 rfl rfl ?_
  refine lk_getR (f := 0) dX9_comes_44 rfl fX9_9 (by decide) (by decide) ?_
  refine lk_bipush (v := 114) dX9_comes_47 (by decide) ?_
  refine lk_ialdN (f := 0) (i := 114) dX9_comes_49 rfl (by decide) rfl (by omega) (by decide) ?_
  refine lk_eqtop (y := (nI (nf))) (lk_br5.trans hn) ?_
  refine lk_istore_n (L' := [(0, lk_vr 1 0), (1, lk_vi (nI (k))), (2, lk_vi (nI (lk_fpl B (r 0) nf 0))), (3, lk_vi (nI (nf)))]) dX9_comes_50 rfl (by decide +kernel) rfl ?_
  have LP51 : ∀ (fu : Nat) (i : Nat), lk_fpl B (r 0) nf 0 ≤ i → i ≤ nf → i < fu → lk_W l X mX9_comes (d + 1) 51 [(0, lk_vr 1 0), (1, lk_vi (nI (k))), (2, lk_vi (nI (lk_fpl B (r 0) nf 0))), (3, lk_vi (nI (i)))] [] (lk_mb σ (lk_shi B i nf)) τ Q := by
    intro fu
    induction fu with
    | zero => intro i hpi hi hfu; exact absurd hfu (by omega)
    | succ fu ih =>
      intro i hpi hi hfu
      refine lk_iload_n dX9_comes_51 rfl rfl ?_
      refine lk_iload_n dX9_comes_52 rfl rfl ?_
      refine lk_icmp_leN (a := i) (b := lk_fpl B (r 0) nf 0) (tgt := 70) dX9_comes_53 (by decide) (by omega) (by omega) (fun hh3 => ?_) (fun hh3 => ?_)
      ·
        refine lk_aload_n dX9_comes_70 rfl rfl ?_
        refine lk_getR (f := 0) dX9_comes_71 rfl fX9_9 (by decide) (by decide) ?_
        refine lk_bipush (v := 114) dX9_comes_74 (by decide) ?_
        refine lk_dup2 dX9_comes_76 rfl rfl ?_
        refine lk_ialdN (f := 0) (i := 114) dX9_comes_77 rfl (by decide) rfl (by omega) (by decide) ?_
        refine lk_eqtop (y := (nI (nf))) (lk_br5.trans (by show lk_shi B _ nf 5 0 = _; unfold lk_shi; rw [if_neg (by omega)]; exact hn)) ?_
        refine lk_iconst (v := 1) dX9_comes_78 (by decide) ?_
        refine lk_iaddN (a := nf) (b := 1) dX9_comes_79 ?_
        refine lk_iastN (f := 0) (i := 114) (v := (nI (nf + 1))) dX9_comes_80 rfl (by decide) rfl (by omega) (by decide) ?_
        refine lk_sg (σ' := (lk_mb σ (lk_ou (lk_shi B i nf) 5 0 (nI (nf + 1))))) (lk_bw5) ?_
        have hip : i = lk_fpl B (r 0) nf 0 := by omega
        refine lk_sg (σ' := lk_mb σ (lk_fsh B (lk_fpl B (r 0) nf 0) nf)) (by rw [← lk_shi_e, hip]) ?_
        refine lk_iconst (v := 0) dX9_comes_81 (by decide) ?_
        refine lk_istore_n (L' := [(0, lk_vr 1 0), (1, lk_vi (nI (k))), (2, lk_vi (nI (lk_fpl B (r 0) nf 0))), (3, lk_vi 0)]) dX9_comes_82 rfl (by decide +kernel) rfl ?_
        have LP83 : ∀ (fu : Nat) (x : Nat), x ≤ 5 → 5 - x < fu → lk_W l X mX9_comes (d + 1) 83 [(0, lk_vr 1 0), (1, lk_vi (nI (k))), (2, lk_vi (nI (lk_fpl B (r 0) nf 0))), (3, lk_vi (nI (x)))] [] (lk_mb σ (lk_frA (lk_fsh B (lk_fpl B (r 0) nf 0) nf) (lk_fpl B (r 0) nf 0) r x)) τ Q := by
          intro fu
          induction fu with
          | zero => intro x hx hfu; exact absurd hfu (by omega)
          | succ fu ih =>
            intro x hx hfu
            refine lk_iload_n dX9_comes_83 rfl rfl ?_
            refine lk_iconst (v := 5) dX9_comes_84 (by decide) ?_
            refine lk_icmp_geN (a := x) (b := 5) (tgt := 118) dX9_comes_85 (by decide) (by omega) (by omega) (fun hh4 => ?_) (fun hh4 => ?_)
            ·
              refine lk_iconst (v := 1) dX9_comes_118 (by decide) ?_
              refine lk_iret .boolean dX9_comes_119 rfl rfl ?_
              rw [hQ]
              have hx5 : x = 5 := by omega
              subst hx5
              exact ⟨rfl, by unfold lk_fput; rw [if_neg (by rw [h]; decide)]; rfl, rfl⟩
            ·
              refine lk_aload_n dX9_comes_88 rfl rfl ?_
              refine lk_getR (f := 0) dX9_comes_89 rfl fX9_9 (by decide) (by decide) ?_
              refine lk_bipush (v := 54) dX9_comes_92 (by decide) ?_
              refine lk_bipush (v := 12) dX9_comes_94 (by decide) ?_
              refine lk_iload_n dX9_comes_96 rfl rfl ?_
              refine lk_imulN (a := 12) (b := x) dX9_comes_97 ?_
              refine lk_iaddN (a := 54) (b := (12) * (x)) dX9_comes_98 ?_
              refine lk_iload_n dX9_comes_99 rfl rfl ?_
              refine lk_iaddN (a := 54 + (12) * (x)) (b := lk_fpl B (r 0) nf 0) dX9_comes_100 ?_
              refine lk_aload_n dX9_comes_101 rfl rfl ?_
              refine lk_getR (f := 16) dX9_comes_102 rfl fX9_27 (by decide) (by decide) ?_
              refine lk_iconst (v := 5) dX9_comes_105 (by decide) ?_
              refine lk_iload_n dX9_comes_106 rfl rfl ?_
              refine lk_imulN (a := 5) (b := k) dX9_comes_107 ?_
              refine lk_iload_n dX9_comes_108 rfl rfl ?_
              refine lk_iaddN (a := (5) * (k)) (b := x) dX9_comes_109 ?_
              refine lk_ialdN (f := 16) (i := (5) * (k) + x) dX9_comes_110 rfl (by decide) rfl (by omega) (by decide) ?_
              refine lk_eqtop (y := (r x)) ((lk_bn (by decide)).trans (hr x (by omega))) ?_
              refine lk_iastN (f := 0) (i := 54 + (12) * (x) + lk_fpl B (r 0) nf 0) (v := (r x)) dX9_comes_111 rfl (by decide) rfl (by omega) (by decide) ?_
              refine lk_sg (σ' := (lk_mb σ (lk_ou (lk_frA (lk_fsh B (lk_fpl B (r 0) nf 0) nf) (lk_fpl B (r 0) nf 0) r x) (x) (lk_fpl B (r 0) nf 0) (r x)))) (lk_bw (by omega) (by omega) (by omega)) ?_
              refine lk_iincN (a := x) (m := 1) (L' := [(0, lk_vr 1 0), (1, lk_vi (nI (k))), (2, lk_vi (nI (lk_fpl B (r 0) nf 0))), (3, lk_vi (nI (x + 1)))]) dX9_comes_112 rfl rfl (by decide +kernel) rfl ?_
              refine lk_goto (tgt := 83) dX9_comes_115 (by decide) ?_
              rw [lk_frA_s]
              exact ih (x + 1) (by omega) (by omega)
        refine lk_sg (σ' := lk_mb σ (lk_frA (lk_fsh B (lk_fpl B (r 0) nf 0) nf) (lk_fpl B (r 0) nf 0) r 0)) (by rw [lk_frA_0]) ?_
        exact LP83 6 0 (by omega) (by omega)
      ·
        refine lk_aload_n dX9_comes_56 rfl rfl ?_
        refine lk_iload_n dX9_comes_57 rfl rfl ?_
        refine lk_iconst (v := 1) dX9_comes_58 (by decide) ?_
        refine lk_isubN (a := i) (b := 1) dX9_comes_59 (by omega) ?_
        refine lk_iload_n dX9_comes_60 rfl rfl ?_
        refine lk_callV (o := 1) (as := [lk_vi (nI ((i) - (1))), lk_vi (nI (i))]) (S := []) dX9_comes_61 rfl vX9_shifts rfl lX9_98 rfl rfl (Nat.le_of_ble_eq_true rfl) (tX9_shifts l X d σ τ (a := ((i) - (1))) (b := (i)) (B := (lk_shi B i nf)) (ha := by omega) (hb := by omega)) ?_
        refine lk_k3 ?_
        refine lk_cast (pc' := 64) (S' := []) rfl rfl rfl ?_
        refine lk_idecN (a := i) (m := 1) (L' := [(0, lk_vr 1 0), (1, lk_vi (nI (k))), (2, lk_vi (nI (lk_fpl B (r 0) nf 0))), (3, lk_vi (nI (i - 1)))]) dX9_comes_64 rfl rfl (by omega) (by decide +kernel) rfl ?_
        refine lk_goto (tgt := 51) dX9_comes_67 (by decide) ?_
        rw [lk_shi_s B (by omega) (by omega)]
        exact ih (i - 1) (by omega) (by omega) (by omega)
  refine lk_sg (σ' := lk_mb σ (lk_shi B nf nf)) (by rw [lk_shiB_0]) ?_
  exact LP51 (nf + 1) nf hple (by omega) (by omega)

set_option maxHeartbeats 1000000 in
set_option maxRecDepth 100000 in
theorem tX9_find (l : Launch) (X : lk_G) (d : Nat) (σ : lk_N) (τ : lk_T) (B : lk_O) (nf : Nat) (hn : B 5 0 = nI nf) (hn12 : nf ≤ 12) (P : lk_O) (n : Nat) (hn60 : n ≤ 60) (htp : σ 1 12 0 = nI n) (hP : ∀ a, a < n → σ 1 13 a = P 0 a)  : lk_Mt l X mX9_find (d + 3) [lk_vr 1 0] (lk_mb σ B) τ (fun rr σ1 τ1 => rr = some (lk_vi (if ¬ (lk_rdn P n 4 0 0).1 = 0 ∧ n ≤ (lk_rdn P n 4 0 0).2 ∧ lk_fold B nf (lk_rdn P n 4 0 0).1 = true then nI (lk_fpl B (lk_rdn P n 4 0 0).1 nf 0) else -2)) ∧ τ1 = τ ∧ ∃ W : lk_N, σ1 = lk_mb W B ∧ (lk_fx [12, 14, 15] σ W ∧ W 1 12 0 = 0)) := by
  refine lk_met (L := [(0, lk_vr 1 0)]) (by decide +kernel) (Nat.le_of_ble_eq_true rfl) rfl ?_
  obtain ⟨Q, hQ⟩ : ∃ Q : lk_Q, Q = fun rr σ1 τ1 => rr = some (lk_vi (if ¬ (lk_rdn P n 4 0 0).1 = 0 ∧ n ≤ (lk_rdn P n 4 0 0).2 ∧ lk_fold B nf (lk_rdn P n 4 0 0).1 = true then nI (lk_fpl B (lk_rdn P n 4 0 0).1 nf 0) else -2)) ∧ τ1 = τ ∧ ∃ W : lk_N, σ1 = lk_mb W B ∧ (lk_fx [12, 14, 15] σ W ∧ W 1 12 0 = 0) := ⟨_, rfl⟩
  rw [← hQ]
  have hle : (lk_rdn P n 4 0 0).2 ≤ n := lk_rdn_le P hn60 4 0 0 (Nat.zero_le _)
  have hpl : lk_fpl B (lk_rdn P n 4 0 0).1 nf 0 ≤ nf := Nat.le_trans (lk_fpl_le B _ nf 0) (by omega)
  refine lk_aload_n dX9_find_0 rfl rfl ?_
  refine lk_iconst (v := 0) dX9_find_1 (by decide) ?_
  refine lk_putI (f := 14) dX9_find_2 rfl fX9_72 (by decide) (by decide) ?_
  refine lk_sg (σ' := (lk_mb (lk_up σ 1 14 0 0) B)) (lk_bf (by decide)) ?_
  refine lk_aload_n dX9_find_5 rfl rfl ?_
  refine lk_iconst (v := (-1)) dX9_find_6 (by decide) ?_
  refine lk_putI (f := 15) dX9_find_7 rfl fX9_69 (by decide) (by decide) ?_
  refine lk_sg (σ' := (lk_mb (lk_up (lk_up σ 1 14 0 0) 1 15 0 (-1)) B)) (lk_bf (by decide)) ?_
  refine lk_aload_n dX9_find_10 rfl rfl ?_
  rcases Classical.em ((lk_rdn P n 4 0 0).1 = 0) with hz | hz
  ·
    refine lk_callV (o := 1) (as := []) (S := []) dX9_find_11 rfl vX9_name rfl lX9_85 rfl rfl (Nat.le_of_ble_eq_true rfl) (tX9_name l X d (lk_up (lk_up σ 1 14 0 0) 1 15 0 (-1)) τ (B := B) (P := P) (n := n) (hn60 := hn60) (htp := htp) (hP := hP) (a := 0) (ha := rfl) (ha70 := by omega) (hf := rfl)) ?_
    refine lk_k3 ?_
    refine lk_cast (pc' := 14) (S' := [lk_vi ((lk_rdn P n 4 0 0).1)]) rfl rfl rfl ?_
    refine lk_sg (σ' := (lk_mb (lk_up (lk_up (lk_up (lk_up σ 1 14 0 0) 1 15 0 (-1)) 1 14 0 (nI ((lk_rdn P n 4 0 0).2))) 1 15 0 (nI ((lk_rdn P n 4 0 0).2))) B)) (by rw [if_pos hz]) ?_
    refine lk_istore_n (L' := [(0, lk_vr 1 0), (1, lk_vi ((lk_rdn P n 4 0 0).1))]) dX9_find_14 rfl (by decide +kernel) rfl ?_
    refine lk_aload_n dX9_find_15 rfl rfl ?_
    refine lk_getIv (v := (nI ((lk_rdn P n 4 0 0).2))) (f := 15) dX9_find_16 rfl fX9_69 (by decide) (by decide) ((lk_bn (by decide)).trans rfl) ?_
    refine lk_if_geN (a := (lk_rdn P n 4 0 0).2) (tgt := 37) dX9_find_19 (by decide) (by omega) (fun hh1 => ?_) (fun hh1 => absurd hh1 (by omega))
    refine lk_iconst (v := 0) dX9_find_37 (by decide) ?_
    refine lk_istore_n (L' := [(0, lk_vr 1 0), (1, lk_vi ((lk_rdn P n 4 0 0).1)), (2, lk_vi 0)]) dX9_find_38 rfl (by decide +kernel) rfl ?_
    refine lk_aload_n dX9_find_39 rfl rfl ?_
    refine lk_iconst (v := 0) dX9_find_40 (by decide) ?_
    refine lk_putI (f := 12) dX9_find_41 rfl fX9_65 (by decide) (by decide) ?_
    refine lk_sg (σ' := (lk_mb (lk_up (lk_up (lk_up (lk_up (lk_up σ 1 14 0 0) 1 15 0 (-1)) 1 14 0 (nI ((lk_rdn P n 4 0 0).2))) 1 15 0 (nI ((lk_rdn P n 4 0 0).2))) 1 12 0 0) B)) (lk_bf (by decide)) ?_
    refine lk_aload_n dX9_find_44 rfl rfl ?_
    refine lk_iload_n dX9_find_45 rfl rfl ?_
    refine lk_callV (o := 1) (as := [lk_vi ((lk_rdn P n 4 0 0).1)]) (S := []) dX9_find_46 rfl vX9_where rfl lX9_92 rfl rfl (Nat.le_of_ble_eq_true rfl) (tX9_where l X (d + 2) (lk_up (lk_up (lk_up (lk_up (lk_up σ 1 14 0 0) 1 15 0 (-1)) 1 14 0 (nI ((lk_rdn P n 4 0 0).2))) 1 15 0 (nI ((lk_rdn P n 4 0 0).2))) 1 12 0 0) τ (w := ((lk_rdn P n 4 0 0).1)) (B := B) (nf := nf) (hn := hn) (hn12 := hn12)) ?_
    refine lk_k3 ?_
    refine lk_cast (pc' := 49) (S' := [lk_vi (nI (lk_fpl B ((lk_rdn P n 4 0 0).1) nf 0))]) rfl rfl rfl ?_
    refine lk_istore_n (L' := [(0, lk_vr 1 0), (1, lk_vi ((lk_rdn P n 4 0 0).1)), (2, lk_vi 0), (3, lk_vi (nI (lk_fpl B ((lk_rdn P n 4 0 0).1) nf 0)))]) dX9_find_49 rfl (by decide +kernel) rfl ?_
    refine lk_iload_n dX9_find_50 rfl rfl ?_
    refine lk_if_eq (tgt := 67) dX9_find_51 (by decide) (fun hh2 => ?_) (fun hh2 => absurd hh2 (by decide))
    refine lk_bipush (v := (-2)) dX9_find_67 (by decide) ?_
    refine lk_iret .int dX9_find_69 rfl rfl ?_
    rw [hQ]
    first
      | rw [if_pos ⟨by assumption, by omega, by first | assumption | exact Decidable.not_not.mp (by assumption)⟩]
      | rw [if_neg (by rintro ⟨z1, z2, z3⟩; first | contradiction | omega)]
    exact ⟨rfl, rfl, (lk_up (lk_up (lk_up (lk_up (lk_up σ 1 14 0 0) 1 15 0 (-1)) 1 14 0 (nI ((lk_rdn P n 4 0 0).2))) 1 15 0 (nI ((lk_rdn P n 4 0 0).2))) 1 12 0 0), rfl, (lk_fx_up (lk_fx_up (lk_fx_up (lk_fx_up (lk_fx_up (lk_fx_rf _ _) (by decide)) (by decide)) (by decide)) (by decide)) (by decide)), rfl⟩
  ·
    refine lk_callV (o := 1) (as := []) (S := []) dX9_find_11 rfl vX9_name rfl lX9_85 rfl rfl (Nat.le_of_ble_eq_true rfl) (tX9_name l X d (lk_up (lk_up σ 1 14 0 0) 1 15 0 (-1)) τ (B := B) (P := P) (n := n) (hn60 := hn60) (htp := htp) (hP := hP) (a := 0) (ha := rfl) (ha70 := by omega) (hf := rfl)) ?_
    refine lk_k3 ?_
    refine lk_cast (pc' := 14) (S' := [lk_vi ((lk_rdn P n 4 0 0).1)]) rfl rfl rfl ?_
    refine lk_sg (σ' := (lk_mb (lk_up (lk_up (lk_up (lk_up σ 1 14 0 0) 1 15 0 (-1)) 1 14 0 (nI ((lk_rdn P n 4 0 0).2))) 1 15 0 (-1)) B)) (by rw [if_neg hz]) ?_
    refine lk_istore_n (L' := [(0, lk_vr 1 0), (1, lk_vi ((lk_rdn P n 4 0 0).1))]) dX9_find_14 rfl (by decide +kernel) rfl ?_
    refine lk_aload_n dX9_find_15 rfl rfl ?_
    refine lk_getIv (v := ((-1))) (f := 15) dX9_find_16 rfl fX9_69 (by decide) (by decide) ((lk_bn (by decide)).trans rfl) ?_
    refine lk_if_ge (tgt := 37) dX9_find_19 (by decide) (fun hh3 => absurd hh3 (by decide)) (fun hh3 => ?_)
    refine lk_aload_n dX9_find_22 rfl rfl ?_
    refine lk_getIv (v := (nI ((lk_rdn P n 4 0 0).2))) (f := 14) dX9_find_23 rfl fX9_72 (by decide) (by decide) ((lk_bn (by decide)).trans rfl) ?_
    refine lk_aload_n dX9_find_26 rfl rfl ?_
    refine lk_getIv (v := (nI (n))) (f := 12) dX9_find_27 rfl fX9_65 (by decide) (by decide) ((lk_bn (by decide)).trans htp) ?_
    refine lk_icmp_neN (a := (lk_rdn P n 4 0 0).2) (b := n) (tgt := 37) dX9_find_30 (by decide) (by omega) (by omega) (fun hh4 => ?_) (fun hh4 => ?_)
    ·
      refine lk_iconst (v := 0) dX9_find_37 (by decide) ?_
      refine lk_istore_n (L' := [(0, lk_vr 1 0), (1, lk_vi ((lk_rdn P n 4 0 0).1)), (2, lk_vi 0)]) dX9_find_38 rfl (by decide +kernel) rfl ?_
      refine lk_aload_n dX9_find_39 rfl rfl ?_
      refine lk_iconst (v := 0) dX9_find_40 (by decide) ?_
      refine lk_putI (f := 12) dX9_find_41 rfl fX9_65 (by decide) (by decide) ?_
      refine lk_sg (σ' := (lk_mb (lk_up (lk_up (lk_up (lk_up (lk_up σ 1 14 0 0) 1 15 0 (-1)) 1 14 0 (nI ((lk_rdn P n 4 0 0).2))) 1 15 0 (-1)) 1 12 0 0) B)) (lk_bf (by decide)) ?_
      refine lk_aload_n dX9_find_44 rfl rfl ?_
      refine lk_iload_n dX9_find_45 rfl rfl ?_
      refine lk_callV (o := 1) (as := [lk_vi ((lk_rdn P n 4 0 0).1)]) (S := []) dX9_find_46 rfl vX9_where rfl lX9_92 rfl rfl (Nat.le_of_ble_eq_true rfl) (tX9_where l X (d + 2) (lk_up (lk_up (lk_up (lk_up (lk_up σ 1 14 0 0) 1 15 0 (-1)) 1 14 0 (nI ((lk_rdn P n 4 0 0).2))) 1 15 0 (-1)) 1 12 0 0) τ (w := ((lk_rdn P n 4 0 0).1)) (B := B) (nf := nf) (hn := hn) (hn12 := hn12)) ?_
      refine lk_k3 ?_
      refine lk_cast (pc' := 49) (S' := [lk_vi (nI (lk_fpl B ((lk_rdn P n 4 0 0).1) nf 0))]) rfl rfl rfl ?_
      refine lk_istore_n (L' := [(0, lk_vr 1 0), (1, lk_vi ((lk_rdn P n 4 0 0).1)), (2, lk_vi 0), (3, lk_vi (nI (lk_fpl B ((lk_rdn P n 4 0 0).1) nf 0)))]) dX9_find_49 rfl (by decide +kernel) rfl ?_
      refine lk_iload_n dX9_find_50 rfl rfl ?_
      refine lk_if_eq (tgt := 67) dX9_find_51 (by decide) (fun hh5 => ?_) (fun hh5 => absurd hh5 (by decide))
      refine lk_bipush (v := (-2)) dX9_find_67 (by decide) ?_
      refine lk_iret .int dX9_find_69 rfl rfl ?_
      rw [hQ]
      first
        | rw [if_pos ⟨by assumption, by omega, by first | assumption | exact Decidable.not_not.mp (by assumption)⟩]
        | rw [if_neg (by rintro ⟨z1, z2, z3⟩; first | contradiction | omega)]
      exact ⟨rfl, rfl, (lk_up (lk_up (lk_up (lk_up (lk_up σ 1 14 0 0) 1 15 0 (-1)) 1 14 0 (nI ((lk_rdn P n 4 0 0).2))) 1 15 0 (-1)) 1 12 0 0), rfl, (lk_fx_up (lk_fx_up (lk_fx_up (lk_fx_up (lk_fx_up (lk_fx_rf _ _) (by decide)) (by decide)) (by decide)) (by decide)) (by decide)), rfl⟩
    ·
      refine lk_iconst (v := 1) dX9_find_33 (by decide) ?_
      refine lk_goto (tgt := 38) dX9_find_34 (by decide) ?_
      refine lk_istore_n (L' := [(0, lk_vr 1 0), (1, lk_vi ((lk_rdn P n 4 0 0).1)), (2, lk_vi 1)]) dX9_find_38 rfl (by decide +kernel) rfl ?_
      refine lk_aload_n dX9_find_39 rfl rfl ?_
      refine lk_iconst (v := 0) dX9_find_40 (by decide) ?_
      refine lk_putI (f := 12) dX9_find_41 rfl fX9_65 (by decide) (by decide) ?_
      refine lk_sg (σ' := (lk_mb (lk_up (lk_up (lk_up (lk_up (lk_up σ 1 14 0 0) 1 15 0 (-1)) 1 14 0 (nI ((lk_rdn P n 4 0 0).2))) 1 15 0 (-1)) 1 12 0 0) B)) (lk_bf (by decide)) ?_
      refine lk_aload_n dX9_find_44 rfl rfl ?_
      refine lk_iload_n dX9_find_45 rfl rfl ?_
      refine lk_callV (o := 1) (as := [lk_vi ((lk_rdn P n 4 0 0).1)]) (S := []) dX9_find_46 rfl vX9_where rfl lX9_92 rfl rfl (Nat.le_of_ble_eq_true rfl) (tX9_where l X (d + 2) (lk_up (lk_up (lk_up (lk_up (lk_up σ 1 14 0 0) 1 15 0 (-1)) 1 14 0 (nI ((lk_rdn P n 4 0 0).2))) 1 15 0 (-1)) 1 12 0 0) τ (w := ((lk_rdn P n 4 0 0).1)) (B := B) (nf := nf) (hn := hn) (hn12 := hn12)) ?_
      refine lk_k3 ?_
      refine lk_cast (pc' := 49) (S' := [lk_vi (nI (lk_fpl B ((lk_rdn P n 4 0 0).1) nf 0))]) rfl rfl rfl ?_
      refine lk_istore_n (L' := [(0, lk_vr 1 0), (1, lk_vi ((lk_rdn P n 4 0 0).1)), (2, lk_vi 1), (3, lk_vi (nI (lk_fpl B ((lk_rdn P n 4 0 0).1) nf 0)))]) dX9_find_49 rfl (by decide +kernel) rfl ?_
      refine lk_iload_n dX9_find_50 rfl rfl ?_
      refine lk_if_eq (tgt := 67) dX9_find_51 (by decide) (fun hh6 => absurd hh6 (by decide)) (fun hh6 => ?_)
      refine lk_aload_n dX9_find_54 rfl rfl ?_
      refine lk_iload_n dX9_find_55 rfl rfl ?_
      refine lk_iload_n dX9_find_56 rfl rfl ?_
      refine lk_callV (o := 1) (as := [lk_vi (nI (lk_fpl B ((lk_rdn P n 4 0 0).1) nf 0)), lk_vi ((lk_rdn P n 4 0 0).1)]) (S := []) dX9_find_57 rfl vX9_isThere rfl lX9_95 rfl rfl (Nat.le_of_ble_eq_true rfl) (tX9_isThere l X (d + 2) (lk_up (lk_up (lk_up (lk_up (lk_up σ 1 14 0 0) 1 15 0 (-1)) 1 14 0 (nI ((lk_rdn P n 4 0 0).2))) 1 15 0 (-1)) 1 12 0 0) τ (b := (lk_fpl B ((lk_rdn P n 4 0 0).1) nf 0)) (w := ((lk_rdn P n 4 0 0).1)) (B := B) (nf := nf) (hn := hn) (hn12 := hn12) (hb := rfl) (hb12 := by omega)) ?_
      refine lk_k3 ?_
      refine lk_cast (pc' := 60) (S' := [lk_vi (if lk_fold B nf ((lk_rdn P n 4 0 0).1) = true then 1 else 0)]) rfl rfl rfl ?_
      refine lk_if_eqB (tgt := 67) dX9_find_60 (by decide) (fun hh7 => ?_) (fun hh7 => ?_)
      ·
        refine lk_bipush (v := (-2)) dX9_find_67 (by decide) ?_
        refine lk_iret .int dX9_find_69 rfl rfl ?_
        rw [hQ]
        first
          | rw [if_pos ⟨by assumption, by omega, by first | assumption | exact Decidable.not_not.mp (by assumption)⟩]
          | rw [if_neg (by rintro ⟨z1, z2, z3⟩; first | contradiction | omega)]
        exact ⟨rfl, rfl, (lk_up (lk_up (lk_up (lk_up (lk_up σ 1 14 0 0) 1 15 0 (-1)) 1 14 0 (nI ((lk_rdn P n 4 0 0).2))) 1 15 0 (-1)) 1 12 0 0), rfl, (lk_fx_up (lk_fx_up (lk_fx_up (lk_fx_up (lk_fx_up (lk_fx_rf _ _) (by decide)) (by decide)) (by decide)) (by decide)) (by decide)), rfl⟩
      ·
        refine lk_iload_n dX9_find_63 rfl rfl ?_
        refine lk_goto (tgt := 69) dX9_find_64 (by decide) ?_
        refine lk_iret .int dX9_find_69 rfl rfl ?_
        rw [hQ]
        first
          | rw [if_pos ⟨by assumption, by omega, by first | assumption | exact Decidable.not_not.mp (by assumption)⟩]
          | rw [if_neg (by rintro ⟨z1, z2, z3⟩; first | contradiction | omega)]
        exact ⟨rfl, rfl, (lk_up (lk_up (lk_up (lk_up (lk_up σ 1 14 0 0) 1 15 0 (-1)) 1 14 0 (nI ((lk_rdn P n 4 0 0).2))) 1 15 0 (-1)) 1 12 0 0), rfl, (lk_fx_up (lk_fx_up (lk_fx_up (lk_fx_up (lk_fx_up (lk_fx_rf _ _) (by decide)) (by decide)) (by decide)) (by decide)) (by decide)), rfl⟩
