def lk_lnum (V : lk_O) (k w : Nat) : Int32 := if w = 0 then V 2 k else if w = 1 then V 3 k else if w = 2 then V 4 k else if w = 3 then (if V 5 k = 0 then 0 else 1) else lk_shr V k
def lk_cnum (K : lk_O) (i : Nat) : Int32 := if K 0 0 = 0 then -2 else K (i + 1) 0
def lk_sm (f : Nat → Int32) : Nat → Int32
  | 0 => 0
  | m + 1 => lk_sm f m + f m
def lk_wat (V : lk_O) (k : Nat) : Int32 := V 4 k + (if V 5 k = 0 then 0 else V 2 k)
def lk_llo (V : lk_O) (b : Int32) : Nat → Int32
  | 0 => -1
  | m + 1 => if b < V 6 m ∧ (lk_llo V b m < 0 ∨ V 6 m < lk_llo V b m) then V 6 m else lk_llo V b m
theorem lk_llo_s (V : lk_O) (b : Int32) (m : Nat) (y : Int32) (h : ((b < V 6 m ∧ (lk_llo V b m < 0 ∨ V 6 m < lk_llo V b m)) ∧ y = V 6 m) ∨ (¬ (b < V 6 m ∧ (lk_llo V b m < 0 ∨ V 6 m < lk_llo V b m)) ∧ y = lk_llo V b m)) : y = lk_llo V b (m + 1) := by
  unfold lk_llo
  rcases h with ⟨h1, h2⟩ | ⟨h1, h2⟩
  · rw [if_pos h1]; exact h2
  · rw [if_neg h1]; exact h2
def lk_ct (f : Nat → Bool) : Nat → Nat
  | 0 => 0
  | m + 1 => lk_ct f m + (if f m = true then 1 else 0)
def lk_tup (T : lk_O) (s : Int32) : Int32 := lk_sm (fun k => if nI k + -9 ≤ s then T 0 k else 0) 118
theorem lk_sm_stop (f : Nat → Int32) {k m : Nat} (h : k ≤ m) (hz : ∀ j, k ≤ j → j < m → f j = 0) : lk_sm f m = lk_sm f k := by
  induction m with
  | zero => have : k = 0 := by omega
            subst this; rfl
  | succ m ih =>
    by_cases e : k = m + 1
    · subst e; rfl
    · simp only [lk_sm]
      rw [hz m (by omega) (by omega), ih (by omega) (fun j a b => hz j a (by omega))]
      simp
theorem lk_nI9 {k : Nat} (h : k < 1000) : (nI k + -9).toInt = (k : Int) - 9 := by
  rw [lk_ta (nI_toInt (by omega)) (show (-9 : Int32).toInt = -9 from rfl) (by omega) (by omega) (by decide) (by decide)]; omega
theorem lk_tup_mono {i j : Nat} {s : Int32} (h1 : i ≤ j) (h2 : j < 118) (h : s < nI i + -9) : ¬ nI j + -9 ≤ s := by
  intro q
  have a := Int32.le_iff_toInt_le.mp q
  have b := Int32.lt_iff_toInt_lt.mp h
  rw [lk_nI9 (by omega)] at a b
  omega
/-- the place of the i-th spent that is there, from place k on, e of them being behind -/
def lk_tfi (T : lk_O) (i : Int32) : Nat → Nat → Nat → Option Nat
  | 0, _, _ => none
  | m + 1, k, e => if 0 < T 0 k then (if nI e = i then some k else lk_tfi T i m (k + 1) (e + 1)) else lk_tfi T i m (k + 1) e
def lk_trw (T : lk_O) (i u : Int32) : Int32 := match lk_tfi T i 118 0 0 with
  | some k => if u = 0 then nI k + -9 else T 0 k
  | none => -2000001
set_option maxHeartbeats 4000000 in
set_option maxRecDepth 100000 in
theorem tX0_lockNumber (l : Launch) (X : lk_G) (d : Nat) (σ : lk_N) (τ : lk_T) (c : Nat) (hc : lk_ko c = 0) (k w : Nat) (hk : k < 6) (hw : w ≤ 4) (hp : ¬ σ c 3 k + 2 = 0) : lk_Mt l X mX0_lockNumber (d + 1) [lk_vr c 0, lk_vi (nI (k)), lk_vi (nI (w))] σ τ (fun rr σ1 τ1 => rr = some (lk_vi (lk_lnum (σ c) k w)) ∧ σ1 = σ ∧ τ1 = τ) := by
  refine lk_met (L := [(0, lk_vr c 0), (1, lk_vi (nI (k))), (2, lk_vi (nI (w)))]) (by decide +kernel) (Nat.le_of_ble_eq_true rfl) rfl ?_
  obtain ⟨Q, hQ⟩ : ∃ Q : lk_Q, Q = fun rr σ1 τ1 => rr = some (lk_vi (lk_lnum (σ c) k w)) ∧ σ1 = σ ∧ τ1 = τ := ⟨_, rfl⟩
  rw [← hQ]
  refine lk_iload_n dX0_lockNumber_0 rfl rfl ?_
  rcases (show w = 0 ∨ w = 1 ∨ w = 2 ∨ w = 3 ∨ (3 < w) by omega) with rfl | rfl | rfl | rfl | hh1
  ·
    refine lk_tableIn (off := 31) (tgt := 32) dX0_lockNumber_1 (by decide) (by decide) rfl (by decide) ?_
    refine lk_aload_n dX0_lockNumber_32 rfl rfl ?_
    refine lk_getR (f := 2) dX0_lockNumber_33 hc fX0_9 (by decide) (by decide) ?_
    refine lk_iload_n dX0_lockNumber_36 rfl rfl ?_
    refine lk_ialdN (f := 2) (i := k) dX0_lockNumber_37 hc (by decide) rfl (by omega) (by decide) ?_
    refine lk_iret .int dX0_lockNumber_38 rfl rfl ?_
    rw [hQ]
    first | exact ⟨rfl, rfl, rfl⟩ | (refine ⟨?_, rfl, rfl⟩; simp [lk_lnum, *]; done) | (have hw4 : w = 4 := (by omega); subst hw4; exact ⟨rfl, rfl, rfl⟩)
  ·
    refine lk_tableIn (off := 38) (tgt := 39) dX0_lockNumber_1 (by decide) (by decide) rfl (by decide) ?_
    refine lk_aload_n dX0_lockNumber_39 rfl rfl ?_
    refine lk_getR (f := 3) dX0_lockNumber_40 hc fX0_15 (by decide) (by decide) ?_
    refine lk_iload_n dX0_lockNumber_43 rfl rfl ?_
    refine lk_ialdN (f := 3) (i := k) dX0_lockNumber_44 hc (by decide) rfl (by omega) (by decide) ?_
    refine lk_iret .int dX0_lockNumber_45 rfl rfl ?_
    rw [hQ]
    first | exact ⟨rfl, rfl, rfl⟩ | (refine ⟨?_, rfl, rfl⟩; simp [lk_lnum, *]; done) | (have hw4 : w = 4 := (by omega); subst hw4; exact ⟨rfl, rfl, rfl⟩)
  ·
    refine lk_tableIn (off := 45) (tgt := 46) dX0_lockNumber_1 (by decide) (by decide) rfl (by decide) ?_
    refine lk_aload_n dX0_lockNumber_46 rfl rfl ?_
    refine lk_getR (f := 4) dX0_lockNumber_47 hc fX0_18 (by decide) (by decide) ?_
    refine lk_iload_n dX0_lockNumber_50 rfl rfl ?_
    refine lk_ialdN (f := 4) (i := k) dX0_lockNumber_51 hc (by decide) rfl (by omega) (by decide) ?_
    refine lk_iret .int dX0_lockNumber_52 rfl rfl ?_
    rw [hQ]
    first | exact ⟨rfl, rfl, rfl⟩ | (refine ⟨?_, rfl, rfl⟩; simp [lk_lnum, *]; done) | (have hw4 : w = 4 := (by omega); subst hw4; exact ⟨rfl, rfl, rfl⟩)
  ·
    refine lk_tableIn (off := 52) (tgt := 53) dX0_lockNumber_1 (by decide) (by decide) rfl (by decide) ?_
    refine lk_aload_n dX0_lockNumber_53 rfl rfl ?_
    refine lk_getR (f := 5) dX0_lockNumber_54 hc fX0_21 (by decide) (by decide) ?_
    refine lk_iload_n dX0_lockNumber_57 rfl rfl ?_
    refine lk_zaldN (f := 5) (i := k) dX0_lockNumber_58 hc (by decide) rfl (by omega) (by decide) ?_
    refine lk_if_eq (tgt := 66) dX0_lockNumber_59 (by decide) (fun hh2 => ?_) (fun hh2 => ?_)
    ·
      refine lk_iconst (v := 0) dX0_lockNumber_66 (by decide) ?_
      refine lk_iret .int dX0_lockNumber_67 rfl rfl ?_
      rw [hQ]
      first | exact ⟨rfl, rfl, rfl⟩ | (refine ⟨?_, rfl, rfl⟩; simp [lk_lnum, *]; done) | (have hw4 : w = 4 := (by omega); subst hw4; exact ⟨rfl, rfl, rfl⟩)
    ·
      refine lk_iconst (v := 1) dX0_lockNumber_62 (by decide) ?_
      refine lk_goto (tgt := 67) dX0_lockNumber_63 (by decide) ?_
      refine lk_iret .int dX0_lockNumber_67 rfl rfl ?_
      rw [hQ]
      first | exact ⟨rfl, rfl, rfl⟩ | (refine ⟨?_, rfl, rfl⟩; simp [lk_lnum, *]; done) | (have hw4 : w = 4 := (by omega); subst hw4; exact ⟨rfl, rfl, rfl⟩)
  ·
    refine lk_tableOut (tgt := 68) dX0_lockNumber_1 (by rw [nI_toInt (by omega)]; omega) (by decide) ?_
    refine lk_aload_n dX0_lockNumber_68 rfl rfl ?_
    refine lk_iload_n dX0_lockNumber_69 rfl rfl ?_
    refine lk_callV (o := c) (as := [lk_vi (nI (k))]) (S := []) dX0_lockNumber_70 rfl vX0_share rfl lX0_72 hc rfl (Nat.le_of_ble_eq_true rfl) (tX0_share l X d σ τ (c := c) (k := (k)) (hc := hc) (hk := hk) (hp := hp)) ?_
    refine lk_k3 ?_
    refine lk_cast (pc' := 73) (S' := [lk_vi (lk_shr (σ c) (k))]) rfl rfl rfl ?_
    refine lk_iret .int dX0_lockNumber_73 rfl rfl ?_
    rw [hQ]
    first | exact ⟨rfl, rfl, rfl⟩ | (refine ⟨?_, rfl, rfl⟩; simp [lk_lnum, *]; done) | (have hw4 : w = 4 := (by omega); subst hw4; exact ⟨rfl, rfl, rfl⟩)

set_option maxHeartbeats 4000000 in
set_option maxRecDepth 100000 in
theorem tX0_reachNumber (l : Launch) (X : lk_G) (d : Nat) (σ : lk_N) (τ : lk_T) (c : Nat) (hc : lk_ko c = 0) (k w : Nat) (hk : k < 7) (hw : w ≤ 3) : lk_Mt l X mX0_reachNumber d [lk_vr c 0, lk_vi (nI (k)), lk_vi (nI (w))] σ τ (fun rr σ1 τ1 => rr = some (lk_vi (σ c (6 + w) k)) ∧ σ1 = σ ∧ τ1 = τ) := by
  refine lk_met (L := [(0, lk_vr c 0), (1, lk_vi (nI (k))), (2, lk_vi (nI (w)))]) (by decide +kernel) (Nat.le_of_ble_eq_true rfl) rfl ?_
  obtain ⟨Q, hQ⟩ : ∃ Q : lk_Q, Q = fun rr σ1 τ1 => rr = some (lk_vi (σ c (6 + w) k)) ∧ σ1 = σ ∧ τ1 = τ := ⟨_, rfl⟩
  rw [← hQ]
  refine lk_iload_n dX0_reachNumber_0 rfl rfl ?_
  rcases (show w = 0 ∨ w = 1 ∨ w = 2 ∨ (2 < w) by omega) with rfl | rfl | rfl | hh1
  ·
    refine lk_tableIn (off := 27) (tgt := 28) dX0_reachNumber_1 (by decide) (by decide) rfl (by decide) ?_
    refine lk_aload_n dX0_reachNumber_28 rfl rfl ?_
    refine lk_getR (f := 6) dX0_reachNumber_29 hc fX0_25 (by decide) (by decide) ?_
    refine lk_iload_n dX0_reachNumber_32 rfl rfl ?_
    refine lk_ialdN (f := 6) (i := k) dX0_reachNumber_33 hc (by decide) rfl (by omega) (by decide) ?_
    refine lk_iret .int dX0_reachNumber_34 rfl rfl ?_
    rw [hQ]
    first | exact ⟨rfl, rfl, rfl⟩ | (have hw3 : w = 3 := (by omega); subst hw3; exact ⟨rfl, rfl, rfl⟩)
  ·
    refine lk_tableIn (off := 34) (tgt := 35) dX0_reachNumber_1 (by decide) (by decide) rfl (by decide) ?_
    refine lk_aload_n dX0_reachNumber_35 rfl rfl ?_
    refine lk_getR (f := 7) dX0_reachNumber_36 hc fX0_28 (by decide) (by decide) ?_
    refine lk_iload_n dX0_reachNumber_39 rfl rfl ?_
    refine lk_ialdN (f := 7) (i := k) dX0_reachNumber_40 hc (by decide) rfl (by omega) (by decide) ?_
    refine lk_iret .int dX0_reachNumber_41 rfl rfl ?_
    rw [hQ]
    first | exact ⟨rfl, rfl, rfl⟩ | (have hw3 : w = 3 := (by omega); subst hw3; exact ⟨rfl, rfl, rfl⟩)
  ·
    refine lk_tableIn (off := 41) (tgt := 42) dX0_reachNumber_1 (by decide) (by decide) rfl (by decide) ?_
    refine lk_aload_n dX0_reachNumber_42 rfl rfl ?_
    refine lk_getR (f := 8) dX0_reachNumber_43 hc fX0_31 (by decide) (by decide) ?_
    refine lk_iload_n dX0_reachNumber_46 rfl rfl ?_
    refine lk_ialdN (f := 8) (i := k) dX0_reachNumber_47 hc (by decide) rfl (by omega) (by decide) ?_
    refine lk_iret .int dX0_reachNumber_48 rfl rfl ?_
    rw [hQ]
    first | exact ⟨rfl, rfl, rfl⟩ | (have hw3 : w = 3 := (by omega); subst hw3; exact ⟨rfl, rfl, rfl⟩)
  ·
    refine lk_tableOut (tgt := 49) dX0_reachNumber_1 (by rw [nI_toInt (by omega)]; omega) (by decide) ?_
    refine lk_aload_n dX0_reachNumber_49 rfl rfl ?_
    refine lk_getR (f := 9) dX0_reachNumber_50 hc fX0_34 (by decide) (by decide) ?_
    refine lk_iload_n dX0_reachNumber_53 rfl rfl ?_
    refine lk_ialdN (f := 9) (i := k) dX0_reachNumber_54 hc (by decide) rfl (by omega) (by decide) ?_
    refine lk_iret .int dX0_reachNumber_55 rfl rfl ?_
    rw [hQ]
    first | exact ⟨rfl, rfl, rfl⟩ | (have hw3 : w = 3 := (by omega); subst hw3; exact ⟨rfl, rfl, rfl⟩)

set_option maxHeartbeats 4000000 in
set_option maxRecDepth 100000 in
theorem tX0_setReach (l : Launch) (X : lk_G) (d : Nat) (σ : lk_N) (τ : lk_T) (c : Nat) (hc : lk_ko c = 0) (k w : Nat) (v : Int32) (hk : k < 7) (hw : w ≤ 3) : lk_Mt l X mX0_setReach d [lk_vr c 0, lk_vi (nI (k)), lk_vi (nI (w)), lk_vi (v)] σ τ (fun rr σ1 τ1 => rr = none ∧ σ1 = lk_up σ c (6 + w) k v ∧ τ1 = τ) := by
  refine lk_met (L := [(0, lk_vr c 0), (1, lk_vi (nI (k))), (2, lk_vi (nI (w))), (3, lk_vi (v))]) (by decide +kernel) (Nat.le_of_ble_eq_true rfl) rfl ?_
  obtain ⟨Q, hQ⟩ : ∃ Q : lk_Q, Q = fun rr σ1 τ1 => rr = none ∧ σ1 = lk_up σ c (6 + w) k v ∧ τ1 = τ := ⟨_, rfl⟩
  rw [← hQ]
  refine lk_iload_n dX0_setReach_0 rfl rfl ?_
  rcases (show w = 0 ∨ w = 1 ∨ w = 2 ∨ (2 < w) by omega) with rfl | rfl | rfl | hh1
  ·
    refine lk_tableIn (off := 27) (tgt := 28) dX0_setReach_1 (by decide) (by decide) rfl (by decide) ?_
    refine lk_aload_n dX0_setReach_28 rfl rfl ?_
    refine lk_getR (f := 6) dX0_setReach_29 hc fX0_25 (by decide) (by decide) ?_
    refine lk_iload_n dX0_setReach_32 rfl rfl ?_
    refine lk_iload_n dX0_setReach_33 rfl rfl ?_
    refine lk_iastN (f := 6) (i := k) (v := (v)) dX0_setReach_34 hc (by decide) rfl (by omega) (by decide) ?_
    refine lk_goto (tgt := 65) dX0_setReach_35 (by decide) ?_
    refine lk_vret dX0_setReach_65 rfl ?_
    rw [hQ]
    first | exact ⟨rfl, rfl, rfl⟩ | (have hw3 : w = 3 := (by omega); subst hw3; exact ⟨rfl, rfl, rfl⟩)
  ·
    refine lk_tableIn (off := 37) (tgt := 38) dX0_setReach_1 (by decide) (by decide) rfl (by decide) ?_
    refine lk_aload_n dX0_setReach_38 rfl rfl ?_
    refine lk_getR (f := 7) dX0_setReach_39 hc fX0_28 (by decide) (by decide) ?_
    refine lk_iload_n dX0_setReach_42 rfl rfl ?_
    refine lk_iload_n dX0_setReach_43 rfl rfl ?_
    refine lk_iastN (f := 7) (i := k) (v := (v)) dX0_setReach_44 hc (by decide) rfl (by omega) (by decide) ?_
    refine lk_goto (tgt := 65) dX0_setReach_45 (by decide) ?_
    refine lk_vret dX0_setReach_65 rfl ?_
    rw [hQ]
    first | exact ⟨rfl, rfl, rfl⟩ | (have hw3 : w = 3 := (by omega); subst hw3; exact ⟨rfl, rfl, rfl⟩)
  ·
    refine lk_tableIn (off := 47) (tgt := 48) dX0_setReach_1 (by decide) (by decide) rfl (by decide) ?_
    refine lk_aload_n dX0_setReach_48 rfl rfl ?_
    refine lk_getR (f := 8) dX0_setReach_49 hc fX0_31 (by decide) (by decide) ?_
    refine lk_iload_n dX0_setReach_52 rfl rfl ?_
    refine lk_iload_n dX0_setReach_53 rfl rfl ?_
    refine lk_iastN (f := 8) (i := k) (v := (v)) dX0_setReach_54 hc (by decide) rfl (by omega) (by decide) ?_
    refine lk_goto (tgt := 65) dX0_setReach_55 (by decide) ?_
    refine lk_vret dX0_setReach_65 rfl ?_
    rw [hQ]
    first | exact ⟨rfl, rfl, rfl⟩ | (have hw3 : w = 3 := (by omega); subst hw3; exact ⟨rfl, rfl, rfl⟩)
  ·
    refine lk_tableOut (tgt := 58) dX0_setReach_1 (by rw [nI_toInt (by omega)]; omega) (by decide) ?_
    refine lk_aload_n dX0_setReach_58 rfl rfl ?_
    refine lk_getR (f := 9) dX0_setReach_59 hc fX0_34 (by decide) (by decide) ?_
    refine lk_iload_n dX0_setReach_62 rfl rfl ?_
    refine lk_iload_n dX0_setReach_63 rfl rfl ?_
    refine lk_iastN (f := 9) (i := k) (v := (v)) dX0_setReach_64 hc (by decide) rfl (by omega) (by decide) ?_
    refine lk_vret dX0_setReach_65 rfl ?_
    rw [hQ]
    first | exact ⟨rfl, rfl, rfl⟩ | (have hw3 : w = 3 := (by omega); subst hw3; exact ⟨rfl, rfl, rfl⟩)

set_option maxHeartbeats 4000000 in
set_option maxRecDepth 100000 in
theorem tX0_allWater (l : Launch) (X : lk_G) (d : Nat) (σ : lk_N) (τ : lk_T) (c : Nat) (hc : lk_ko c = 0) (n : Nat) (hn : σ c 0 0 = nI n) (hn6 : n ≤ 6) : lk_Mt l X mX0_allWater d [lk_vr c 0] σ τ (fun rr σ1 τ1 => rr = some (lk_vi (lk_sm (σ c 6) (n + 1) + lk_sm (lk_wat (σ c)) n)) ∧ σ1 = σ ∧ τ1 = τ) := by
  refine lk_met (L := [(0, lk_vr c 0)]) (by decide +kernel) (Nat.le_of_ble_eq_true rfl) rfl ?_
  obtain ⟨Q, hQ⟩ : ∃ Q : lk_Q, Q = fun rr σ1 τ1 => rr = some (lk_vi (lk_sm (σ c 6) (n + 1) + lk_sm (lk_wat (σ c)) n)) ∧ σ1 = σ ∧ τ1 = τ := ⟨_, rfl⟩
  rw [← hQ]
  refine lk_iconst (v := 0) dX0_allWater_0 (by decide) ?_
  refine lk_istore_n (L' := [(0, lk_vr c 0), (1, lk_vi 0)]) dX0_allWater_1 rfl (by decide +kernel) rfl ?_
  refine lk_iconst (v := 0) dX0_allWater_2 (by decide) ?_
  refine lk_istore_n (L' := [(0, lk_vr c 0), (1, lk_vi 0), (2, lk_vi 0)]) dX0_allWater_3 rfl (by decide +kernel) rfl ?_
  have LP4 : ∀ (fu : Nat) (i : Nat), i ≤ n + 1 → n + 1 - i < fu → lk_W l X mX0_allWater d 4 [(0, lk_vr c 0), (1, lk_vi (lk_sm (σ c 6) i)), (2, lk_vi (nI (i)))] [] σ τ Q := by
    intro fu
    induction fu with
    | zero => intro i hi hfu; exact absurd hfu (by omega)
    | succ fu ih =>
      intro i hi hfu
      refine lk_iload_n dX0_allWater_4 rfl rfl ?_
      refine lk_aload_n dX0_allWater_5 rfl rfl ?_
      refine lk_getIv (v := nI (n)) (f := 0) dX0_allWater_6 hc fX0_51 (by decide) (by decide) hn ?_
      refine lk_icmp_gtN (a := i) (b := n) (tgt := 27) dX0_allWater_9 (by decide) (by omega) (by omega) (fun hh1 => ?_) (fun hh1 => ?_)
      ·
        refine lk_iconst (v := 0) dX0_allWater_27 (by decide) ?_
        refine lk_istore_n (L' := [(0, lk_vr c 0), (1, lk_vi (lk_sm (σ c 6) i)), (2, lk_vi 0)]) dX0_allWater_28 rfl (by decide +kernel) rfl ?_
        have LP29 : ∀ (fu : Nat) (k : Nat) (y : Int32), k ≤ n → y = lk_sm (σ c 6) (n + 1) + lk_sm (lk_wat (σ c)) k → n - k < fu → lk_W l X mX0_allWater d 29 [(0, lk_vr c 0), (1, lk_vi (y)), (2, lk_vi (nI (k)))] [] σ τ Q := by
          intro fu
          induction fu with
          | zero => intro k y hk hy hfu; exact absurd hfu (by omega)
          | succ fu ih =>
            intro k y hk hy hfu
            refine lk_iload_n dX0_allWater_29 rfl rfl ?_
            refine lk_aload_n dX0_allWater_30 rfl rfl ?_
            refine lk_getIv (v := nI (n)) (f := 0) dX0_allWater_31 hc fX0_51 (by decide) (by decide) hn ?_
            refine lk_icmp_geN (a := k) (b := n) (tgt := 72) dX0_allWater_34 (by decide) (by omega) (by omega) (fun hh2 => ?_) (fun hh2 => ?_)
            ·
              refine lk_iload_n dX0_allWater_72 rfl rfl ?_
              refine lk_iret .int dX0_allWater_73 rfl rfl ?_
              rw [hQ]
              have : k = n := by omega
              subst this
              exact ⟨by rw [hy], rfl, rfl⟩
            ·
              refine lk_iload_n dX0_allWater_37 rfl rfl ?_
              refine lk_aload_n dX0_allWater_38 rfl rfl ?_
              refine lk_getR (f := 4) dX0_allWater_39 hc fX0_18 (by decide) (by decide) ?_
              refine lk_iload_n dX0_allWater_42 rfl rfl ?_
              refine lk_ialdN (f := 4) (i := k) dX0_allWater_43 hc (by decide) rfl (by omega) (by decide) ?_
              refine lk_aload_n dX0_allWater_44 rfl rfl ?_
              refine lk_getR (f := 5) dX0_allWater_45 hc fX0_21 (by decide) (by decide) ?_
              refine lk_iload_n dX0_allWater_48 rfl rfl ?_
              refine lk_zaldN (f := 5) (i := k) dX0_allWater_49 hc (by decide) rfl (by omega) (by decide) ?_
              refine lk_if_eq (tgt := 62) dX0_allWater_50 (by decide) (fun hh3 => ?_) (fun hh3 => ?_)
              ·
                refine lk_iconst (v := 0) dX0_allWater_62 (by decide) ?_
                refine lk_iadd dX0_allWater_63 ?_
                refine lk_iadd dX0_allWater_64 ?_
                refine lk_istore_n (L' := [(0, lk_vr c 0), (1, lk_vi ((y) + ((σ c 4 (k)) + 0))), (2, lk_vi (nI (k)))]) dX0_allWater_65 rfl (by decide +kernel) rfl ?_
                refine lk_iincN (a := k) (m := 1) (L' := [(0, lk_vr c 0), (1, lk_vi ((y) + ((σ c 4 (k)) + 0))), (2, lk_vi (nI (k + 1)))]) dX0_allWater_66 rfl rfl (by decide +kernel) rfl ?_
                refine lk_goto (tgt := 29) dX0_allWater_69 (by decide) ?_
                refine ih (k + 1) _ (by omega) ?_ (by omega)
                rw [hy]; simp only [lk_sm, lk_wat]
                first | (rw [if_pos (by assumption)]; grind) | (rw [if_neg (by assumption)]; grind)
              ·
                refine lk_aload_n dX0_allWater_53 rfl rfl ?_
                refine lk_getR (f := 2) dX0_allWater_54 hc fX0_9 (by decide) (by decide) ?_
                refine lk_iload_n dX0_allWater_57 rfl rfl ?_
                refine lk_ialdN (f := 2) (i := k) dX0_allWater_58 hc (by decide) rfl (by omega) (by decide) ?_
                refine lk_goto (tgt := 63) dX0_allWater_59 (by decide) ?_
                refine lk_iadd dX0_allWater_63 ?_
                refine lk_iadd dX0_allWater_64 ?_
                refine lk_istore_n (L' := [(0, lk_vr c 0), (1, lk_vi ((y) + ((σ c 4 (k)) + (σ c 2 (k))))), (2, lk_vi (nI (k)))]) dX0_allWater_65 rfl (by decide +kernel) rfl ?_
                refine lk_iincN (a := k) (m := 1) (L' := [(0, lk_vr c 0), (1, lk_vi ((y) + ((σ c 4 (k)) + (σ c 2 (k))))), (2, lk_vi (nI (k + 1)))]) dX0_allWater_66 rfl rfl (by decide +kernel) rfl ?_
                refine lk_goto (tgt := 29) dX0_allWater_69 (by decide) ?_
                refine ih (k + 1) _ (by omega) ?_ (by omega)
                rw [hy]; simp only [lk_sm, lk_wat]
                first | (rw [if_pos (by assumption)]; grind) | (rw [if_neg (by assumption)]; grind)
        have : i = n + 1 := by omega
        subst this
        exact LP29 (n + 1) 0 _ (by omega) (by simp [lk_sm]) (by omega)
      ·
        refine lk_iload_n dX0_allWater_12 rfl rfl ?_
        refine lk_aload_n dX0_allWater_13 rfl rfl ?_
        refine lk_getR (f := 6) dX0_allWater_14 hc fX0_25 (by decide) (by decide) ?_
        refine lk_iload_n dX0_allWater_17 rfl rfl ?_
        refine lk_ialdN (f := 6) (i := i) dX0_allWater_18 hc (by decide) rfl (by omega) (by decide) ?_
        refine lk_iadd dX0_allWater_19 ?_
        refine lk_istore_n (L' := [(0, lk_vr c 0), (1, lk_vi ((lk_sm (σ c 6) i) + (σ c 6 (i)))), (2, lk_vi (nI (i)))]) dX0_allWater_20 rfl (by decide +kernel) rfl ?_
        refine lk_iincN (a := i) (m := 1) (L' := [(0, lk_vr c 0), (1, lk_vi ((lk_sm (σ c 6) i) + (σ c 6 (i)))), (2, lk_vi (nI (i + 1)))]) dX0_allWater_21 rfl rfl (by decide +kernel) rfl ?_
        refine lk_goto (tgt := 4) dX0_allWater_24 (by decide) ?_
        exact ih (i + 1) (by omega) (by omega)
  exact LP4 (n + 2) 0 (by omega) (by omega)

set_option maxHeartbeats 4000000 in
set_option maxRecDepth 100000 in
theorem tX0_leastLevelOver (l : Launch) (X : lk_G) (d : Nat) (σ : lk_N) (τ : lk_T) (c : Nat) (hc : lk_ko c = 0) (n : Nat) (hn : σ c 0 0 = nI n) (hn6 : n ≤ 6) (b : Int32) : lk_Mt l X mX0_leastLevelOver d [lk_vr c 0, lk_vi (b)] σ τ (fun rr σ1 τ1 => rr = some (lk_vi (lk_llo (σ c) b (n + 1))) ∧ σ1 = σ ∧ τ1 = τ) := by
  refine lk_met (L := [(0, lk_vr c 0), (1, lk_vi (b))]) (by decide +kernel) (Nat.le_of_ble_eq_true rfl) rfl ?_
  obtain ⟨Q, hQ⟩ : ∃ Q : lk_Q, Q = fun rr σ1 τ1 => rr = some (lk_vi (lk_llo (σ c) b (n + 1))) ∧ σ1 = σ ∧ τ1 = τ := ⟨_, rfl⟩
  rw [← hQ]
  refine lk_iconst (v := (-1)) dX0_leastLevelOver_0 (by decide) ?_
  refine lk_istore_n (L' := [(0, lk_vr c 0), (1, lk_vi (b)), (2, lk_vi (-1))]) dX0_leastLevelOver_1 rfl (by decide +kernel) rfl ?_
  refine lk_iconst (v := 0) dX0_leastLevelOver_2 (by decide) ?_
  refine lk_istore_n (L' := [(0, lk_vr c 0), (1, lk_vi (b)), (2, lk_vi (-1)), (3, lk_vi 0)]) dX0_leastLevelOver_3 rfl (by decide +kernel) rfl ?_
  have LP4 : ∀ (fu : Nat) (i : Nat) (y : Int32), i ≤ n + 1 → y = lk_llo (σ c) b i → n + 1 - i < fu → lk_W l X mX0_leastLevelOver d 4 [(0, lk_vr c 0), (1, lk_vi (b)), (2, lk_vi (y)), (3, lk_vi (nI (i)))] [] σ τ Q := by
    intro fu
    induction fu with
    | zero => intro i y hi hy hfu; exact absurd hfu (by omega)
    | succ fu ih =>
      intro i y hi hy hfu
      refine lk_iload_n dX0_leastLevelOver_4 rfl rfl ?_
      refine lk_aload_n dX0_leastLevelOver_5 rfl rfl ?_
      refine lk_getIv (v := nI (n)) (f := 0) dX0_leastLevelOver_6 hc fX0_51 (by decide) (by decide) hn ?_
      refine lk_icmp_gtN (a := i) (b := n) (tgt := 49) dX0_leastLevelOver_9 (by decide) (by omega) (by omega) (fun hh1 => ?_) (fun hh1 => ?_)
      ·
        refine lk_iload_n dX0_leastLevelOver_49 rfl rfl ?_
        refine lk_iret .int dX0_leastLevelOver_50 rfl rfl ?_
        rw [hQ]
        have : i = n + 1 := by omega
        subst this
        exact ⟨by rw [hy], rfl, rfl⟩
      ·
        refine lk_aload_n dX0_leastLevelOver_12 rfl rfl ?_
        refine lk_getR (f := 6) dX0_leastLevelOver_13 hc fX0_25 (by decide) (by decide) ?_
        refine lk_iload_n dX0_leastLevelOver_16 rfl rfl ?_
        refine lk_ialdN (f := 6) (i := i) dX0_leastLevelOver_17 hc (by decide) rfl (by omega) (by decide) ?_
        refine lk_iload_n dX0_leastLevelOver_18 rfl rfl ?_
        refine lk_icmp_le (tgt := 43) dX0_leastLevelOver_19 (by decide) (fun hh2 => ?_) (fun hh2 => ?_)
        ·
          refine lk_iincN (a := i) (m := 1) (L' := [(0, lk_vr c 0), (1, lk_vi (b)), (2, lk_vi (y)), (3, lk_vi (nI (i + 1)))]) dX0_leastLevelOver_43 rfl rfl (by decide +kernel) rfl ?_
          refine lk_goto (tgt := 4) dX0_leastLevelOver_46 (by decide) ?_
          refine ih (i + 1) _ (by omega) ?_ (by omega)
          subst hy
          exact lk_llo_s _ _ _ _ (by grind)
        ·
          refine lk_iload_n dX0_leastLevelOver_22 rfl rfl ?_
          refine lk_if_lt (tgt := 36) dX0_leastLevelOver_23 (by decide) (fun hh3 => ?_) (fun hh3 => ?_)
          ·
            refine lk_aload_n dX0_leastLevelOver_36 rfl rfl ?_
            refine lk_getR (f := 6) dX0_leastLevelOver_37 hc fX0_25 (by decide) (by decide) ?_
            refine lk_iload_n dX0_leastLevelOver_40 rfl rfl ?_
            refine lk_ialdN (f := 6) (i := i) dX0_leastLevelOver_41 hc (by decide) rfl (by omega) (by decide) ?_
            refine lk_istore_n (L' := [(0, lk_vr c 0), (1, lk_vi (b)), (2, lk_vi (σ c 6 (i))), (3, lk_vi (nI (i)))]) dX0_leastLevelOver_42 rfl (by decide +kernel) rfl ?_
            refine lk_iincN (a := i) (m := 1) (L' := [(0, lk_vr c 0), (1, lk_vi (b)), (2, lk_vi (σ c 6 (i))), (3, lk_vi (nI (i + 1)))]) dX0_leastLevelOver_43 rfl rfl (by decide +kernel) rfl ?_
            refine lk_goto (tgt := 4) dX0_leastLevelOver_46 (by decide) ?_
            refine ih (i + 1) _ (by omega) ?_ (by omega)
            subst hy
            exact lk_llo_s _ _ _ _ (by grind)
          ·
            refine lk_aload_n dX0_leastLevelOver_26 rfl rfl ?_
            refine lk_getR (f := 6) dX0_leastLevelOver_27 hc fX0_25 (by decide) (by decide) ?_
            refine lk_iload_n dX0_leastLevelOver_30 rfl rfl ?_
            refine lk_ialdN (f := 6) (i := i) dX0_leastLevelOver_31 hc (by decide) rfl (by omega) (by decide) ?_
            refine lk_iload_n dX0_leastLevelOver_32 rfl rfl ?_
            refine lk_icmp_ge (tgt := 43) dX0_leastLevelOver_33 (by decide) (fun hh4 => ?_) (fun hh4 => ?_)
            ·
              refine lk_iincN (a := i) (m := 1) (L' := [(0, lk_vr c 0), (1, lk_vi (b)), (2, lk_vi (y)), (3, lk_vi (nI (i + 1)))]) dX0_leastLevelOver_43 rfl rfl (by decide +kernel) rfl ?_
              refine lk_goto (tgt := 4) dX0_leastLevelOver_46 (by decide) ?_
              refine ih (i + 1) _ (by omega) ?_ (by omega)
              subst hy
              exact lk_llo_s _ _ _ _ (by grind)
            ·
              refine lk_aload_n dX0_leastLevelOver_36 rfl rfl ?_
              refine lk_getR (f := 6) dX0_leastLevelOver_37 hc fX0_25 (by decide) (by decide) ?_
              refine lk_iload_n dX0_leastLevelOver_40 rfl rfl ?_
              refine lk_ialdN (f := 6) (i := i) dX0_leastLevelOver_41 hc (by decide) rfl (by omega) (by decide) ?_
              refine lk_istore_n (L' := [(0, lk_vr c 0), (1, lk_vi (b)), (2, lk_vi (σ c 6 (i))), (3, lk_vi (nI (i)))]) dX0_leastLevelOver_42 rfl (by decide +kernel) rfl ?_
              refine lk_iincN (a := i) (m := 1) (L' := [(0, lk_vr c 0), (1, lk_vi (b)), (2, lk_vi (σ c 6 (i))), (3, lk_vi (nI (i + 1)))]) dX0_leastLevelOver_43 rfl rfl (by decide +kernel) rfl ?_
              refine lk_goto (tgt := 4) dX0_leastLevelOver_46 (by decide) ?_
              refine ih (i + 1) _ (by omega) ?_ (by omega)
              subst hy
              exact lk_llo_s _ _ _ _ (by grind)
  exact LP4 (n + 2) 0 _ (by omega) rfl (by omega)

set_option maxHeartbeats 4000000 in
set_option maxRecDepth 100000 in
theorem tX0_fullLocks (l : Launch) (X : lk_G) (d : Nat) (σ : lk_N) (τ : lk_T) (c : Nat) (hc : lk_ko c = 0) (n : Nat) (hn : σ c 0 0 = nI n) (hn6 : n ≤ 6) : lk_Mt l X mX0_fullLocks d [lk_vr c 0] σ τ (fun rr σ1 τ1 => rr = some (lk_vi (nI (lk_ct (fun k => decide (¬ σ c 5 k = 0)) n))) ∧ σ1 = σ ∧ τ1 = τ) := by
  refine lk_met (L := [(0, lk_vr c 0)]) (by decide +kernel) (Nat.le_of_ble_eq_true rfl) rfl ?_
  obtain ⟨Q, hQ⟩ : ∃ Q : lk_Q, Q = fun rr σ1 τ1 => rr = some (lk_vi (nI (lk_ct (fun k => decide (¬ σ c 5 k = 0)) n))) ∧ σ1 = σ ∧ τ1 = τ := ⟨_, rfl⟩
  rw [← hQ]
  refine lk_iconst (v := 0) dX0_fullLocks_0 (by decide) ?_
  refine lk_istore_n (L' := [(0, lk_vr c 0), (1, lk_vi 0)]) dX0_fullLocks_1 rfl (by decide +kernel) rfl ?_
  refine lk_iconst (v := 0) dX0_fullLocks_2 (by decide) ?_
  refine lk_istore_n (L' := [(0, lk_vr c 0), (1, lk_vi 0), (2, lk_vi 0)]) dX0_fullLocks_3 rfl (by decide +kernel) rfl ?_
  have LP4 : ∀ (fu : Nat) (i : Nat) (y : Nat), i ≤ n → y = lk_ct (fun k => decide (¬ σ c 5 k = 0)) i → n - i < fu → lk_W l X mX0_fullLocks d 4 [(0, lk_vr c 0), (1, lk_vi (nI (y))), (2, lk_vi (nI (i)))] [] σ τ Q := by
    intro fu
    induction fu with
    | zero => intro i y hi hy hfu; exact absurd hfu (by omega)
    | succ fu ih =>
      intro i y hi hy hfu
      refine lk_iload_n dX0_fullLocks_4 rfl rfl ?_
      refine lk_aload_n dX0_fullLocks_5 rfl rfl ?_
      refine lk_getIv (v := nI (n)) (f := 0) dX0_fullLocks_6 hc fX0_51 (by decide) (by decide) hn ?_
      refine lk_icmp_geN (a := i) (b := n) (tgt := 30) dX0_fullLocks_9 (by decide) (by omega) (by omega) (fun hh1 => ?_) (fun hh1 => ?_)
      ·
        refine lk_iload_n dX0_fullLocks_30 rfl rfl ?_
        refine lk_iret .int dX0_fullLocks_31 rfl rfl ?_
        rw [hQ]
        have : i = n := by omega
        subst this
        exact ⟨by rw [hy], rfl, rfl⟩
      ·
        refine lk_aload_n dX0_fullLocks_12 rfl rfl ?_
        refine lk_getR (f := 5) dX0_fullLocks_13 hc fX0_21 (by decide) (by decide) ?_
        refine lk_iload_n dX0_fullLocks_16 rfl rfl ?_
        refine lk_zaldN (f := 5) (i := i) dX0_fullLocks_17 hc (by decide) rfl (by omega) (by decide) ?_
        refine lk_if_eq (tgt := 24) dX0_fullLocks_18 (by decide) (fun hh2 => ?_) (fun hh2 => ?_)
        ·
          refine lk_iincN (a := i) (m := 1) (L' := [(0, lk_vr c 0), (1, lk_vi (nI (y))), (2, lk_vi (nI (i + 1)))]) dX0_fullLocks_24 rfl rfl (by decide +kernel) rfl ?_
          refine lk_goto (tgt := 4) dX0_fullLocks_27 (by decide) ?_
          refine ih (i + 1) _ (by omega) ?_ (by omega)
          simp only [lk_ct]
          simp [*]
        ·
          refine lk_iincN (a := y) (m := 1) (L' := [(0, lk_vr c 0), (1, lk_vi (nI (y + 1))), (2, lk_vi (nI (i)))]) dX0_fullLocks_21 rfl rfl (by decide +kernel) rfl ?_
          refine lk_iincN (a := i) (m := 1) (L' := [(0, lk_vr c 0), (1, lk_vi (nI (y + 1))), (2, lk_vi (nI (i + 1)))]) dX0_fullLocks_24 rfl rfl (by decide +kernel) rfl ?_
          refine lk_goto (tgt := 4) dX0_fullLocks_27 (by decide) ?_
          refine ih (i + 1) _ (by omega) ?_ (by omega)
          simp only [lk_ct]
          simp [*]
  exact LP4 (n + 1) 0 0 (by omega) rfl (by omega)
