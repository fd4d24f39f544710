theorem lk_curm_lt {P : lk_O} {n a : Nat} (h : 0 ≤ lk_cur P n a) : a < n ∧ lk_cur P n a = P 0 a := by
  unfold lk_cur at h ⊢
  by_cases c : a < n
  · rw [if_pos c]; exact ⟨c, rfl⟩
  · rw [if_neg c] at h; exact absurd h (by decide)
abbrev lk_ltr (P : lk_O) (n a : Nat) : Prop := 97 ≤ lk_cur P n a ∧ lk_cur P n a ≤ 122
theorem lk_ltr_n {P : lk_O} {n a : Nat} (h : lk_ltr P n a) : ∃ l, 1 ≤ l ∧ l ≤ 26 ∧ lk_cur P n a - 97 + 1 = nI l := by
  have a1 := Int32.le_iff_toInt_le.mp h.1
  have a2 := Int32.le_iff_toInt_le.mp h.2
  rw [show (97 : Int32).toInt = 97 from rfl] at a1
  rw [show (122 : Int32).toInt = 122 from rfl] at a2
  refine ⟨((lk_cur P n a).toInt - 96).toNat, by omega, by omega, ?_⟩
  apply Int32.toInt_inj.mp
  have e1 := lk_ts (a := lk_cur P n a) (b := 97) rfl (show (97 : Int32).toInt = 97 from rfl) (by omega) (by omega) (by decide) (by decide)
  rw [lk_ta e1 (show (1 : Int32).toInt = 1 from rfl) (by omega) (by omega) (by decide) (by decide), nI_toInt (by omega)]
  omega
theorem lk_rdn_no {P : lk_O} {n a : Nat} (h : ¬ lk_ltr P n a) : ∀ m x, lk_rdn P n m a (nI x) = (nI (x * 27 ^ m), a)
  | 0, x => by simp [lk_rdn]
  | m + 1, x => by
    unfold lk_rdn
    rw [if_neg h, show nI x * 27 + 0 = nI (x * 27) by rw [← lk_nI_mul]; show nI x * nI 27 + 0 = _; simp, lk_rdn_no h m]
    rw [Nat.pow_succ, Nat.mul_assoc, Nat.mul_comm 27]
theorem lk_rdn_le1 {P : lk_O} {n a : Nat} (h : lk_ltr P n a) : ∃ l, 1 ≤ l ∧ l ≤ 26 ∧ ∀ m x, lk_rdn P n (m + 1) a (nI x) = lk_rdn P n m (a + 1) (nI (x * 27 + l)) := by
  obtain ⟨l, h1, h2, h3⟩ := lk_ltr_n h
  refine ⟨l, h1, h2, fun m x => ?_⟩
  conv => lhs; unfold lk_rdn
  rw [if_pos h, h3, ← nI_add, ← lk_nI_mul]
  rfl
/-- the number of a name -/
def lk_prp (y : Nat) : Prop := y < 531441 ∧ (y / 19683 % 27 = 0 → y / 729 % 27 = 0) ∧ (y / 729 % 27 = 0 → y / 27 % 27 = 0) ∧ (y / 27 % 27 = 0 → y % 27 = 0)
theorem lk_rdn_4 (P : lk_O) (n a : Nat) : ∃ y, (lk_rdn P n 4 a 0).1 = nI y ∧ lk_prp y ∧ (y = 0 ↔ ¬ lk_ltr P n a) := by
  show ∃ y, (lk_rdn P n 4 a (nI 0)).1 = nI y ∧ lk_prp y ∧ (y = 0 ↔ ¬ lk_ltr P n a)
  by_cases h0 : lk_ltr P n a
  · obtain ⟨l0, a0, b0, e0⟩ := lk_rdn_le1 h0
    rw [e0 3 0]
    by_cases h1 : lk_ltr P n (a + 1)
    · obtain ⟨l1, a1, b1, e1⟩ := lk_rdn_le1 h1
      rw [e1 2]
      by_cases h2 : lk_ltr P n (a + 1 + 1)
      · obtain ⟨l2, a2, b2, e2⟩ := lk_rdn_le1 h2
        rw [e2 1]
        by_cases h3 : lk_ltr P n (a + 1 + 1 + 1)
        · obtain ⟨l3, a3, b3, e3⟩ := lk_rdn_le1 h3
          rw [e3 0]
          exact ⟨_, rfl, by unfold lk_prp; omega, by constructor; · intro z; omega
                                                     · intro z; exact absurd h0 z⟩
        · rw [lk_rdn_no h3]
          exact ⟨_, rfl, by unfold lk_prp; omega, by constructor; · intro z; omega
                                                     · intro z; exact absurd h0 z⟩
      · rw [lk_rdn_no h2]
        exact ⟨_, rfl, by unfold lk_prp; omega, by constructor; · intro z; omega
                                                   · intro z; exact absurd h0 z⟩
    · rw [lk_rdn_no h1]
      exact ⟨_, rfl, by unfold lk_prp; omega, by constructor; · intro z; omega
                                                 · intro z; exact absurd h0 z⟩
  · rw [lk_rdn_no h0]
    exact ⟨_, rfl, by unfold lk_prp; omega, by constructor; · intro z; exact h0
                                               · intro z; omega⟩
theorem lk_rdnm_z (P : lk_O) (n a : Nat) : (lk_rdn P n 4 a 0).1 = 0 ↔ ¬ lk_ltr P n a := by
  obtain ⟨y, e, p, z⟩ := lk_rdn_4 P n a
  rw [e, ← z]
  constructor
  · intro q
    have := congrArg Int32.toInt q
    rw [nI_toInt (by have := p.1; omega), show (0 : Int32).toInt = 0 from rfl] at this
    omega
  · rintro rfl; rfl
theorem lk_divN {x : Nat} (h : x < 2147483648) : nI x / 27 = nI (x / 27) := by
  apply Int32.toInt_inj.mp
  rw [Int32.toInt_div, nI_toInt h, nI_toInt (by omega), show (27 : Int32).toInt = 27 from rfl, Int.tdiv_eq_ediv_of_nonneg (by omega), Int.bmod_eq_of_le] <;> omega
theorem lk_dv_n {y : Nat} (h : y < 2147483648) : ∀ m, lk_dv (nI y) m = nI (y / 27 ^ m)
  | 0 => by simp [lk_dv]
  | m + 1 => by
    have hl : y / 27 ^ m ≤ y := Nat.div_le_self _ _
    show lk_dv (nI y) m / 27 = _
    rw [lk_dv_n h m, lk_divN (by omega), Nat.pow_succ, Nat.div_div_eq_div_mul]
theorem lk_let_n {y : Nat} (h : y < 2147483648) (k : Nat) : lk_let (nI y) k = nI (y / 27 ^ (3 - k) % 27) := by
  unfold lk_let
  rw [lk_dv_n h]
  obtain ⟨x, hx⟩ : ∃ x, x = y / 27 ^ (3 - k) := ⟨_, rfl⟩
  have hl : x ≤ y := by rw [hx]; exact Nat.div_le_self _ _
  rw [← hx, lk_divN (by omega)]
  have e : nI x = nI (x % 27) + nI (x / 27) * 27 := by
    rw [show nI (x / 27) * 27 = nI (x / 27 * 27) from lk_nI_mul _ 27, nI_add]
    congr 1; omega
  conv => lhs; lhs; rw [e]
  grind
theorem lk_prp_nok {y : Nat} (h : lk_prp y) : lk_nok (nI y) := by
  have hy := h.1
  constructor
  · intro k hk
    rw [lk_let_n (by omega)]
    have := Nat.mod_lt (y / 27 ^ (3 - k)) (show 0 < 27 by decide)
    exact ⟨nI_pos' (by omega), nI_le (b := 26) (by omega) (by decide)⟩
  · intro k hk h0
    rw [lk_let_n (by omega)] at h0 ⊢
    have e : y / 27 ^ (3 - k) % 27 = 0 := by
      have := congrArg Int32.toInt h0
      have hm := Nat.mod_lt (y / 27 ^ (3 - k)) (show 0 < 27 by decide)
      rw [nI_toInt (by omega), show (0 : Int32).toInt = 0 from rfl] at this
      omega
    obtain ⟨_, h1, h2, h3⟩ := h
    rcases (show k = 0 ∨ k = 1 ∨ k = 2 by omega) with rfl | rfl | rfl
    · rw [show y / 27 ^ (3 - (0 + 1)) % 27 = 0 from h1 e]; rfl
    · rw [show y / 27 ^ (3 - (1 + 1)) % 27 = 0 from by simpa using h2 e]; rfl
    · rw [show y / 27 ^ (3 - (2 + 1)) % 27 = 0 from by simpa using h3 (by simpa using e)]; rfl
theorem lk_upm_self (σ : lk_N) (o f i : Nat) : lk_up σ o f i (σ o f i) = σ := by
  funext a b c
  simp only [lk_up]
  split
  · rename_i h; rw [h.1, h.2.1, h.2.2]
  · rfl
theorem lk_upm_up (σ : lk_N) (o f i : Nat) (v w : Int32) : lk_up (lk_up σ o f i v) o f i w = lk_up σ o f i w := by
  funext a b c
  simp only [lk_up]
  split <;> rfl
theorem lk_up_s15 (σ : lk_N) (x : Int32) : lk_up (lk_up σ 1 14 0 x) 1 15 0 (σ 1 15 0) = lk_up σ 1 14 0 x := by
  funext a b c
  simp only [lk_up]
  grind
set_option maxHeartbeats 1000000 in
set_option maxRecDepth 100000 in
theorem tX9_isFrom_ok (l : Launch) (X : lk_G) (d : Nat) (σ : lk_N) (τ : lk_T) (B : lk_O) (P : lk_O) (n : Nat) (hn60 : n ≤ 60) (htp : σ 1 12 0 = nI n) (hP : ∀ a, a < n → σ 1 13 a = P 0 a) (a : Nat) (ha : σ 1 14 0 = nI a) (ha70 : a ≤ 200) (hf : σ 1 15 0 = -1) (lo hi : Int32) (hlo : 0 ≤ lo) : lk_Mt l X mX9_isFrom (d + 1) [lk_vr 1 0, lk_vi (lo), lk_vi (hi)] (lk_mb σ B) τ (fun rr σ1 τ1 => rr = some (lk_vi (if lo ≤ lk_cur P n a ∧ lk_cur P n a ≤ hi then 1 else 0)) ∧ σ1 = (lk_mb σ B) ∧ τ1 = τ) := by
  refine lk_met (L := [(0, lk_vr 1 0), (1, lk_vi (lo)), (2, lk_vi (hi))]) (by decide +kernel) (Nat.le_of_ble_eq_true rfl) rfl ?_
  obtain ⟨Q, hQ⟩ : ∃ Q : lk_Q, Q = fun rr σ1 τ1 => rr = some (lk_vi (if lo ≤ lk_cur P n a ∧ lk_cur P n a ≤ hi then 1 else 0)) ∧ σ1 = (lk_mb σ B) ∧ τ1 = τ := ⟨_, rfl⟩
  rw [← hQ]
  refine lk_aload_n dX9_isFrom_0 rfl rfl ?_
  refine lk_getIv (v := (-1)) (f := 15) dX9_isFrom_1 rfl fX9_69 (by decide) (by decide) ((lk_bn (by decide)).trans hf) ?_
  refine lk_if_ge (tgt := 39) dX9_isFrom_4 (by decide) (fun hh1 => absurd hh1 (by decide)) (fun hh1 => ?_)
  refine lk_aload_n dX9_isFrom_7 rfl rfl ?_
  refine lk_getIv (v := (nI (a))) (f := 14) dX9_isFrom_8 rfl fX9_72 (by decide) (by decide) ((lk_bn (by decide)).trans ha) ?_
  refine lk_aload_n dX9_isFrom_11 rfl rfl ?_
  refine lk_getIv (v := (nI (n))) (f := 12) dX9_isFrom_12 rfl fX9_65 (by decide) (by decide) ((lk_bn (by decide)).trans htp) ?_
  refine lk_icmp_geN (a := a) (b := n) (tgt := 39) dX9_isFrom_15 (by decide) (by omega) (by omega) (fun hh2 => ?_) (fun hh2 => ?_)
  ·
    refine lk_iconst (v := 0) dX9_isFrom_39 (by decide) ?_
    refine lk_iret .boolean dX9_isFrom_40 rfl rfl ?_
    rw [hQ]
    refine ⟨?_, rfl, rfl⟩
    by_cases c : a < n
    · have e : lk_cur P n a = P 0 a := by unfold lk_cur; rw [if_pos c]
      rw [e]
      first | (exfalso; omega) | rw [if_pos (by assumption)] | rw [if_neg (by assumption)]
    · have e : lk_cur P n a = -1 := by unfold lk_cur; rw [if_neg c]
      first | (exfalso; omega) | rw [e, if_neg (fun z => absurd (Int32.le_trans hlo z.1) (by decide))]
  ·
    refine lk_aload_n dX9_isFrom_18 rfl rfl ?_
    refine lk_getR (f := 13) dX9_isFrom_19 rfl fX9_24 (by decide) (by decide) ?_
    refine lk_aload_n dX9_isFrom_22 rfl rfl ?_
    refine lk_getIv (v := (nI (a))) (f := 14) dX9_isFrom_23 rfl fX9_72 (by decide) (by decide) ((lk_bn (by decide)).trans ha) ?_
    refine lk_ialdN (f := 13) (i := a) dX9_isFrom_26 rfl (by decide) rfl (by omega) (by decide) ?_
    refine lk_eqtop (y := (P 0 a)) ((lk_bn (by decide)).trans (hP a (by omega))) ?_
    refine lk_iload_n dX9_isFrom_27 rfl rfl ?_
    refine lk_iload_n dX9_isFrom_28 rfl rfl ?_
    refine lk_callS (as := [lk_vi (P 0 a), lk_vi (lo), lk_vi (hi)]) (S := []) dX9_isFrom_29 rfl vX9_within rfl lX9_46 (Nat.le_of_ble_eq_true rfl) (tX9_within l X d (lk_mb σ B) τ (v := (P 0 a)) (a := (lo)) (b := (hi)) ) ?_
    refine lk_k3 ?_
    refine lk_cast (pc' := 32) (S' := [lk_vi (if (lo) ≤ (P 0 a) ∧ (P 0 a) ≤ (hi) then 1 else 0)]) rfl rfl rfl ?_
    refine lk_if_eqB (tgt := 39) dX9_isFrom_32 (by decide) (fun hh3 => ?_) (fun hh3 => ?_)
    ·
      refine lk_iconst (v := 0) dX9_isFrom_39 (by decide) ?_
      refine lk_iret .boolean dX9_isFrom_40 rfl rfl ?_
      rw [hQ]
      refine ⟨?_, rfl, rfl⟩
      by_cases c : a < n
      · have e : lk_cur P n a = P 0 a := by unfold lk_cur; rw [if_pos c]
        rw [e]
        first | (exfalso; omega) | rw [if_pos (by assumption)] | rw [if_neg (by assumption)]
      · have e : lk_cur P n a = -1 := by unfold lk_cur; rw [if_neg c]
        first | (exfalso; omega) | rw [e, if_neg (fun z => absurd (Int32.le_trans hlo z.1) (by decide))]
    ·
      refine lk_iconst (v := 1) dX9_isFrom_35 (by decide) ?_
      refine lk_goto (tgt := 40) dX9_isFrom_36 (by decide) ?_
      refine lk_iret .boolean dX9_isFrom_40 rfl rfl ?_
      rw [hQ]
      refine ⟨?_, rfl, rfl⟩
      by_cases c : a < n
      · have e : lk_cur P n a = P 0 a := by unfold lk_cur; rw [if_pos c]
        rw [e]
        first | (exfalso; omega) | rw [if_pos (by assumption)] | rw [if_neg (by assumption)]
      · have e : lk_cur P n a = -1 := by unfold lk_cur; rw [if_neg c]
        first | (exfalso; omega) | rw [e, if_neg (fun z => absurd (Int32.le_trans hlo z.1) (by decide))]

set_option maxHeartbeats 1000000 in
set_option maxRecDepth 100000 in
theorem tX9_isFrom_bad (l : Launch) (X : lk_G) (d : Nat) (σ : lk_N) (τ : lk_T) (B : lk_O) (hf : 0 ≤ σ 1 15 0) (lo hi : Int32) : lk_Mt l X mX9_isFrom (d + 1) [lk_vr 1 0, lk_vi (lo), lk_vi (hi)] (lk_mb σ B) τ (fun rr σ1 τ1 => rr = some (lk_vi 0) ∧ σ1 = (lk_mb σ B) ∧ τ1 = τ) := by
  refine lk_met (L := [(0, lk_vr 1 0), (1, lk_vi (lo)), (2, lk_vi (hi))]) (by decide +kernel) (Nat.le_of_ble_eq_true rfl) rfl ?_
  obtain ⟨Q, hQ⟩ : ∃ Q : lk_Q, Q = fun rr σ1 τ1 => rr = some (lk_vi 0) ∧ σ1 = (lk_mb σ B) ∧ τ1 = τ := ⟨_, rfl⟩
  rw [← hQ]
  refine lk_aload_n dX9_isFrom_0 rfl rfl ?_
  refine lk_getIv (v := ((lk_mb σ B) 1 15 0)) (f := 15) dX9_isFrom_1 rfl fX9_69 (by decide) (by decide) rfl ?_
  refine lk_if_ge (tgt := 39) dX9_isFrom_4 (by decide) (fun hh1 => ?_) (fun hh1 => absurd hh1 (fun q => q (by rw [lk_bn (by decide)]; exact hf)))
  refine lk_iconst (v := 0) dX9_isFrom_39 (by decide) ?_
  refine lk_iret .boolean dX9_isFrom_40 rfl rfl ?_
  rw [hQ]
  exact ⟨by first | rfl | (simp [*]; done) | (simp_all; done) | grind, by first | rfl | (simp [*]; done), rfl⟩

set_option maxHeartbeats 1000000 in
set_option maxRecDepth 100000 in
theorem tX9_wrong_ok (l : Launch) (X : lk_G) (d : Nat) (σ : lk_N) (τ : lk_T) (B : lk_O) (a : Nat) (ha : σ 1 14 0 = nI a) (hf : σ 1 15 0 = -1)  : lk_Mt l X mX9_wrong d [lk_vr 1 0] (lk_mb σ B) τ (fun rr σ1 τ1 => rr = none ∧ σ1 = (lk_mb (lk_up σ 1 15 0 (nI a)) B) ∧ τ1 = τ) := by
  refine lk_met (L := [(0, lk_vr 1 0)]) (by decide +kernel) (Nat.le_of_ble_eq_true rfl) rfl ?_
  obtain ⟨Q, hQ⟩ : ∃ Q : lk_Q, Q = fun rr σ1 τ1 => rr = none ∧ σ1 = (lk_mb (lk_up σ 1 15 0 (nI a)) B) ∧ τ1 = τ := ⟨_, rfl⟩
  rw [← hQ]
  refine lk_aload_n dX9_wrong_0 rfl rfl ?_
  refine lk_getIv (v := (-1)) (f := 15) dX9_wrong_1 rfl fX9_69 (by decide) (by decide) ((lk_bn (by decide)).trans hf) ?_
  refine lk_if_ge (tgt := 15) dX9_wrong_4 (by decide) (fun hh1 => absurd hh1 (by decide)) (fun hh1 => ?_)
  refine lk_aload_n dX9_wrong_7 rfl rfl ?_
  refine lk_aload_n dX9_wrong_8 rfl rfl ?_
  refine lk_getIv (v := (nI (a))) (f := 14) dX9_wrong_9 rfl fX9_72 (by decide) (by decide) ((lk_bn (by decide)).trans ha) ?_
  refine lk_putI (f := 15) dX9_wrong_12 rfl fX9_69 (by decide) (by decide) ?_
  refine lk_sg (σ' := (lk_mb (lk_up σ 1 15 0 (nI (a))) B)) (lk_bf (by decide)) ?_
  refine lk_vret dX9_wrong_15 rfl ?_
  rw [hQ]
  exact ⟨by first | rfl | (simp [*]; done) | (simp_all; done) | grind, by first | rfl | (simp [*]; done), rfl⟩

set_option maxHeartbeats 1000000 in
set_option maxRecDepth 100000 in
theorem tX9_wrong_bad (l : Launch) (X : lk_G) (d : Nat) (σ : lk_N) (τ : lk_T) (B : lk_O) (hf : 0 ≤ σ 1 15 0)  : lk_Mt l X mX9_wrong d [lk_vr 1 0] (lk_mb σ B) τ (fun rr σ1 τ1 => rr = none ∧ σ1 = (lk_mb σ B) ∧ τ1 = τ) := by
  refine lk_met (L := [(0, lk_vr 1 0)]) (by decide +kernel) (Nat.le_of_ble_eq_true rfl) rfl ?_
  obtain ⟨Q, hQ⟩ : ∃ Q : lk_Q, Q = fun rr σ1 τ1 => rr = none ∧ σ1 = (lk_mb σ B) ∧ τ1 = τ := ⟨_, rfl⟩
  rw [← hQ]
  refine lk_aload_n dX9_wrong_0 rfl rfl ?_
  refine lk_getIv (v := ((lk_mb σ B) 1 15 0)) (f := 15) dX9_wrong_1 rfl fX9_69 (by decide) (by decide) rfl ?_
  refine lk_if_ge (tgt := 15) dX9_wrong_4 (by decide) (fun hh1 => ?_) (fun hh1 => absurd hh1 (fun q => q (by rw [lk_bn (by decide)]; exact hf)))
  refine lk_vret dX9_wrong_15 rfl ?_
  rw [hQ]
  exact ⟨by first | rfl | (simp [*]; done) | (simp_all; done) | grind, by first | rfl | (simp [*]; done), rfl⟩

set_option maxHeartbeats 1000000 in
set_option maxRecDepth 100000 in
theorem tX9_name (l : Launch) (X : lk_G) (d : Nat) (σ : lk_N) (τ : lk_T) (B : lk_O) (P : lk_O) (n : Nat) (hn60 : n ≤ 60) (htp : σ 1 12 0 = nI n) (hP : ∀ a, a < n → σ 1 13 a = P 0 a) (a : Nat) (ha : σ 1 14 0 = nI a) (ha70 : a ≤ 100) (hf : σ 1 15 0 = -1)  : lk_Mt l X mX9_name (d + 2) [lk_vr 1 0] (lk_mb σ B) τ (fun rr σ1 τ1 => rr = some (lk_vi ((lk_rdn P n 4 a 0).1)) ∧ σ1 = (lk_mb (lk_up (lk_up σ 1 14 0 (nI (lk_rdn P n 4 a 0).2)) 1 15 0 (if (lk_rdn P n 4 a 0).1 = 0 then nI (lk_rdn P n 4 a 0).2 else -1)) B) ∧ τ1 = τ) := by
  refine lk_met (L := [(0, lk_vr 1 0)]) (by decide +kernel) (Nat.le_of_ble_eq_true rfl) rfl ?_
  obtain ⟨Q, hQ⟩ : ∃ Q : lk_Q, Q = fun rr σ1 τ1 => rr = some (lk_vi ((lk_rdn P n 4 a 0).1)) ∧ σ1 = (lk_mb (lk_up (lk_up σ 1 14 0 (nI (lk_rdn P n 4 a 0).2)) 1 15 0 (if (lk_rdn P n 4 a 0).1 = 0 then nI (lk_rdn P n 4 a 0).2 else -1)) B) ∧ τ1 = τ := ⟨_, rfl⟩
  rw [← hQ]
  obtain ⟨R, hR⟩ : ∃ R, R = (lk_rdn P n 4 a 0) := ⟨_, rfl⟩
  refine lk_iconst (v := 0) dX9_name_0 (by decide) ?_
  refine lk_istore_n (L' := [(0, lk_vr 1 0), (1, lk_vi 0)]) dX9_name_1 rfl (by decide +kernel) rfl ?_
  refine lk_iconst (v := 0) dX9_name_2 (by decide) ?_
  refine lk_istore_n (L' := [(0, lk_vr 1 0), (1, lk_vi 0), (2, lk_vi 0)]) dX9_name_3 rfl (by decide +kernel) rfl ?_
  have LP4 : ∀ (fu : Nat) (c e : Nat) (v : Int32), c ≤ 4 → e ≤ a + c → R = lk_rdn P n (4 - c) e v → (c = 0 → e = a ∧ v = 0) → (0 < c → lk_ltr P n a) → 4 - c < fu → lk_W l X mX9_name (d + 2) 4 [(0, lk_vr 1 0), (1, lk_vi (v)), (2, lk_vi (nI (c)))] [] (lk_mb (lk_up σ 1 14 0 (nI (e))) B) τ Q := by
    intro fu
    induction fu with
    | zero => intro c e v hc4 he hI hc0 hc1 hfu; exact absurd hfu (by omega)
    | succ fu ih =>
      intro c e v hc4 he hI hc0 hc1 hfu
      refine lk_iload_n dX9_name_4 rfl rfl ?_
      refine lk_iconst (v := 4) dX9_name_5 (by decide) ?_
      refine lk_icmp_geN (a := c) (b := 4) (tgt := 56) dX9_name_6 (by decide) (by omega) (by omega) (fun hh1 => ?_) (fun hh1 => ?_)
      ·
        have hnl : c = 4 ∨ ¬ lk_ltr P n e := by first | exact Or.inr (by assumption) | exact Or.inl (by omega)
        refine lk_iload_n dX9_name_56 rfl rfl ?_
        refine lk_if_neN (a := c) (tgt := 64) dX9_name_57 (by decide) (by omega) (fun hh2 => ?_) (fun hh2 => ?_)
        ·
          refine lk_iload_n dX9_name_64 rfl rfl ?_
          refine lk_istore_n (L' := [(0, lk_vr 1 0), (1, lk_vi (v)), (2, lk_vi (nI (c))), (3, lk_vi (nI (c)))]) dX9_name_65 rfl (by decide +kernel) rfl ?_
          have LP66 : ∀ (fu : Nat) (k : Nat) (v2 : Int32), c ≤ k → k ≤ 4 → R = lk_rdn P n (4 - k) e v2 → 4 - k < fu → lk_W l X mX9_name (d + 2) 66 [(0, lk_vr 1 0), (1, lk_vi (v2)), (2, lk_vi (nI (c))), (3, lk_vi (nI (k)))] [] (lk_mb (lk_up σ 1 14 0 (nI (e))) B) τ Q := by
            intro fu
            induction fu with
            | zero => intro k v2 hck hk4 hI2 hfu; exact absurd hfu (by omega)
            | succ fu ih =>
              intro k v2 hck hk4 hI2 hfu
              refine lk_iload_n dX9_name_66 rfl rfl ?_
              refine lk_iconst (v := 4) dX9_name_67 (by decide) ?_
              refine lk_icmp_geN (a := k) (b := 4) (tgt := 82) dX9_name_68 (by decide) (by omega) (by omega) (fun hh3 => ?_) (fun hh3 => ?_)
              ·
                refine lk_iload_n dX9_name_82 rfl rfl ?_
                refine lk_iret .int dX9_name_83 rfl rfl ?_
                rw [hQ]
                rw [show 4 - k = 0 by omega] at hI2
                have hI3 : R = (v2, e) := hI2
                rw [← hR, hI3]
                have hz : ¬ v2 = 0 := by
                  intro q
                  exact (lk_rdnm_z P n a).mp (by rw [← hR, hI3]; exact q) (hc1 (by omega))
                refine ⟨rfl, ?_, rfl⟩
                rw [if_neg (show ¬ (v2, e).1 = 0 from hz)]
                congr 1
                rw [← hf]
                exact (lk_up_s15 σ _).symm
              ·
                refine lk_iload_n dX9_name_71 rfl rfl ?_
                refine lk_bipush (v := 27) dX9_name_72 (by decide) ?_
                refine lk_imul dX9_name_74 ?_
                refine lk_istore_n (L' := [(0, lk_vr 1 0), (1, lk_vi ((v2) * 27)), (2, lk_vi (nI (c))), (3, lk_vi (nI (k)))]) dX9_name_75 rfl (by decide +kernel) rfl ?_
                refine lk_iincN (a := k) (m := 1) (L' := [(0, lk_vr 1 0), (1, lk_vi ((v2) * 27)), (2, lk_vi (nI (c))), (3, lk_vi (nI (k + 1)))]) dX9_name_76 rfl rfl (by decide +kernel) rfl ?_
                refine lk_goto (tgt := 66) dX9_name_79 (by decide) ?_
                rw [show 4 - k = (4 - (k + 1)) + 1 by omega, lk_rdn, if_neg (by first | exact hnl.resolve_left (by omega)), show v2 * 27 + 0 = v2 * 27 by simp] at hI2
                exact ih (k + 1) _ (by omega) (by omega) hI2 (by omega)
          exact LP66 5 c v (by omega) hc4 hI (by omega)
        ·
          refine lk_aload_n dX9_name_60 rfl rfl ?_
          refine lk_callV (o := 1) (as := []) (S := []) dX9_name_61 rfl vX9_wrong rfl lX9_79 rfl rfl (Nat.le_of_ble_eq_true rfl) (tX9_wrong_ok l X (d + 1) (lk_up σ 1 14 0 (nI (e))) τ (B := B) (a := e) (ha := rfl) (hf := hf)) ?_
          refine lk_k3 ?_
          refine lk_cast (pc' := 64) (S' := []) rfl rfl rfl ?_
          refine lk_iload_n dX9_name_64 rfl rfl ?_
          refine lk_istore_n (L' := [(0, lk_vr 1 0), (1, lk_vi (v)), (2, lk_vi (nI (c))), (3, lk_vi (nI (c)))]) dX9_name_65 rfl (by decide +kernel) rfl ?_
          have LP66 : ∀ (fu : Nat) (k : Nat) (v2 : Int32), c ≤ k → k ≤ 4 → R = lk_rdn P n (4 - k) e v2 → 4 - k < fu → lk_W l X mX9_name (d + 2) 66 [(0, lk_vr 1 0), (1, lk_vi (v2)), (2, lk_vi (nI (c))), (3, lk_vi (nI (k)))] [] (lk_mb (lk_up (lk_up σ 1 14 0 (nI (e))) 1 15 0 (nI e)) B) τ Q := by
            intro fu
            induction fu with
            | zero => intro k v2 hck hk4 hI2 hfu; exact absurd hfu (by omega)
            | succ fu ih =>
              intro k v2 hck hk4 hI2 hfu
              refine lk_iload_n dX9_name_66 rfl rfl ?_
              refine lk_iconst (v := 4) dX9_name_67 (by decide) ?_
              refine lk_icmp_geN (a := k) (b := 4) (tgt := 82) dX9_name_68 (by decide) (by omega) (by omega) (fun hh4 => ?_) (fun hh4 => ?_)
              ·
                refine lk_iload_n dX9_name_82 rfl rfl ?_
                refine lk_iret .int dX9_name_83 rfl rfl ?_
                rw [hQ]
                rw [show 4 - k = 0 by omega] at hI2
                have hI3 : R = (v2, e) := hI2
                rw [← hR, hI3]
                have hz : v2 = 0 := by
                  have := (lk_rdnm_z P n a).mpr (by rw [← (hc0 (by omega)).1]; exact hnl.resolve_left (by omega))
                  rw [← hR, hI3] at this; exact this
                exact ⟨rfl, by rw [show (v2, e).1 = 0 from hz, if_pos rfl], rfl⟩
              ·
                refine lk_iload_n dX9_name_71 rfl rfl ?_
                refine lk_bipush (v := 27) dX9_name_72 (by decide) ?_
                refine lk_imul dX9_name_74 ?_
                refine lk_istore_n (L' := [(0, lk_vr 1 0), (1, lk_vi ((v2) * 27)), (2, lk_vi (nI (c))), (3, lk_vi (nI (k)))]) dX9_name_75 rfl (by decide +kernel) rfl ?_
                refine lk_iincN (a := k) (m := 1) (L' := [(0, lk_vr 1 0), (1, lk_vi ((v2) * 27)), (2, lk_vi (nI (c))), (3, lk_vi (nI (k + 1)))]) dX9_name_76 rfl rfl (by decide +kernel) rfl ?_
                refine lk_goto (tgt := 66) dX9_name_79 (by decide) ?_
                rw [show 4 - k = (4 - (k + 1)) + 1 by omega, lk_rdn, if_neg (by first | exact hnl.resolve_left (by omega)), show v2 * 27 + 0 = v2 * 27 by simp] at hI2
                exact ih (k + 1) _ (by omega) (by omega) hI2 (by omega)
          exact LP66 5 c v (by omega) hc4 hI (by omega)
      ·
        refine lk_aload_n dX9_name_9 rfl rfl ?_
        refine lk_bipush (v := 97) dX9_name_10 (by decide) ?_
        refine lk_bipush (v := 122) dX9_name_12 (by decide) ?_
        refine lk_callV (o := 1) (as := [lk_vi 97, lk_vi 122]) (S := []) dX9_name_14 rfl vX9_isFrom rfl lX9_75 rfl rfl (Nat.le_of_ble_eq_true rfl) (tX9_isFrom_ok l X d (lk_up σ 1 14 0 (nI (e))) τ (lo := (97 : Int32)) (hi := (122 : Int32)) (B := B) (P := P) (n := n) (hn60 := hn60) (htp := htp) (hP := hP) (a := e) (ha := rfl) (ha70 := by omega) (hf := hf) (hlo := by decide)) ?_
        refine lk_k3 ?_
        refine lk_cast (pc' := 17) (S' := [lk_vi (if 97 ≤ lk_cur P n e ∧ lk_cur P n e ≤ 122 then 1 else 0)]) rfl rfl rfl ?_
        refine lk_if_eqB (tgt := 56) dX9_name_17 (by decide) (fun hh5 => ?_) (fun hh5 => ?_)
        ·
          have hnl : c = 4 ∨ ¬ lk_ltr P n e := by first | exact Or.inr (by assumption) | exact Or.inl (by omega)
          refine lk_iload_n dX9_name_56 rfl rfl ?_
          refine lk_if_neN (a := c) (tgt := 64) dX9_name_57 (by decide) (by omega) (fun hh6 => ?_) (fun hh6 => ?_)
          ·
            refine lk_iload_n dX9_name_64 rfl rfl ?_
            refine lk_istore_n (L' := [(0, lk_vr 1 0), (1, lk_vi (v)), (2, lk_vi (nI (c))), (3, lk_vi (nI (c)))]) dX9_name_65 rfl (by decide +kernel) rfl ?_
            have LP66 : ∀ (fu : Nat) (k : Nat) (v2 : Int32), c ≤ k → k ≤ 4 → R = lk_rdn P n (4 - k) e v2 → 4 - k < fu → lk_W l X mX9_name (d + 2) 66 [(0, lk_vr 1 0), (1, lk_vi (v2)), (2, lk_vi (nI (c))), (3, lk_vi (nI (k)))] [] (lk_mb (lk_up σ 1 14 0 (nI (e))) B) τ Q := by
              intro fu
              induction fu with
              | zero => intro k v2 hck hk4 hI2 hfu; exact absurd hfu (by omega)
              | succ fu ih =>
                intro k v2 hck hk4 hI2 hfu
                refine lk_iload_n dX9_name_66 rfl rfl ?_
                refine lk_iconst (v := 4) dX9_name_67 (by decide) ?_
                refine lk_icmp_geN (a := k) (b := 4) (tgt := 82) dX9_name_68 (by decide) (by omega) (by omega) (fun hh7 => ?_) (fun hh7 => ?_)
                ·
                  refine lk_iload_n dX9_name_82 rfl rfl ?_
                  refine lk_iret .int dX9_name_83 rfl rfl ?_
                  rw [hQ]
                  rw [show 4 - k = 0 by omega] at hI2
                  have hI3 : R = (v2, e) := hI2
                  rw [← hR, hI3]
                  have hz : ¬ v2 = 0 := by
                    intro q
                    exact (lk_rdnm_z P n a).mp (by rw [← hR, hI3]; exact q) (hc1 (by omega))
                  refine ⟨rfl, ?_, rfl⟩
                  rw [if_neg (show ¬ (v2, e).1 = 0 from hz)]
                  congr 1
                  rw [← hf]
                  exact (lk_up_s15 σ _).symm
                ·
                  refine lk_iload_n dX9_name_71 rfl rfl ?_
                  refine lk_bipush (v := 27) dX9_name_72 (by decide) ?_
                  refine lk_imul dX9_name_74 ?_
                  refine lk_istore_n (L' := [(0, lk_vr 1 0), (1, lk_vi ((v2) * 27)), (2, lk_vi (nI (c))), (3, lk_vi (nI (k)))]) dX9_name_75 rfl (by decide +kernel) rfl ?_
                  refine lk_iincN (a := k) (m := 1) (L' := [(0, lk_vr 1 0), (1, lk_vi ((v2) * 27)), (2, lk_vi (nI (c))), (3, lk_vi (nI (k + 1)))]) dX9_name_76 rfl rfl (by decide +kernel) rfl ?_
                  refine lk_goto (tgt := 66) dX9_name_79 (by decide) ?_
                  rw [show 4 - k = (4 - (k + 1)) + 1 by omega, lk_rdn, if_neg (by first | exact hnl.resolve_left (by omega)), show v2 * 27 + 0 = v2 * 27 by simp] at hI2
                  exact ih (k + 1) _ (by omega) (by omega) hI2 (by omega)
            exact LP66 5 c v (by omega) hc4 hI (by omega)
          ·
            refine lk_aload_n dX9_name_60 rfl rfl ?_
            refine lk_callV (o := 1) (as := []) (S := []) dX9_name_61 rfl vX9_wrong rfl lX9_79 rfl rfl (Nat.le_of_ble_eq_true rfl) (tX9_wrong_ok l X (d + 1) (lk_up σ 1 14 0 (nI (e))) τ (B := B) (a := e) (ha := rfl) (hf := hf)) ?_
            refine lk_k3 ?_
            refine lk_cast (pc' := 64) (S' := []) rfl rfl rfl ?_
            refine lk_iload_n dX9_name_64 rfl rfl ?_
            refine lk_istore_n (L' := [(0, lk_vr 1 0), (1, lk_vi (v)), (2, lk_vi (nI (c))), (3, lk_vi (nI (c)))]) dX9_name_65 rfl (by decide +kernel) rfl ?_
            have LP66 : ∀ (fu : Nat) (k : Nat) (v2 : Int32), c ≤ k → k ≤ 4 → R = lk_rdn P n (4 - k) e v2 → 4 - k < fu → lk_W l X mX9_name (d + 2) 66 [(0, lk_vr 1 0), (1, lk_vi (v2)), (2, lk_vi (nI (c))), (3, lk_vi (nI (k)))] [] (lk_mb (lk_up (lk_up σ 1 14 0 (nI (e))) 1 15 0 (nI e)) B) τ Q := by
              intro fu
              induction fu with
              | zero => intro k v2 hck hk4 hI2 hfu; exact absurd hfu (by omega)
              | succ fu ih =>
                intro k v2 hck hk4 hI2 hfu
                refine lk_iload_n dX9_name_66 rfl rfl ?_
                refine lk_iconst (v := 4) dX9_name_67 (by decide) ?_
                refine lk_icmp_geN (a := k) (b := 4) (tgt := 82) dX9_name_68 (by decide) (by omega) (by omega) (fun hh8 => ?_) (fun hh8 => ?_)
                ·
                  refine lk_iload_n dX9_name_82 rfl rfl ?_
                  refine lk_iret .int dX9_name_83 rfl rfl ?_
                  rw [hQ]
                  rw [show 4 - k = 0 by omega] at hI2
                  have hI3 : R = (v2, e) := hI2
                  rw [← hR, hI3]
                  have hz : v2 = 0 := by
                    have := (lk_rdnm_z P n a).mpr (by rw [← (hc0 (by omega)).1]; exact hnl.resolve_left (by omega))
                    rw [← hR, hI3] at this; exact this
                  exact ⟨rfl, by rw [show (v2, e).1 = 0 from hz, if_pos rfl], rfl⟩
                ·
                  refine lk_iload_n dX9_name_71 rfl rfl ?_
                  refine lk_bipush (v := 27) dX9_name_72 (by decide) ?_
                  refine lk_imul dX9_name_74 ?_
                  refine lk_istore_n (L' := [(0, lk_vr 1 0), (1, lk_vi ((v2) * 27)), (2, lk_vi (nI (c))), (3, lk_vi (nI (k)))]) dX9_name_75 rfl (by decide +kernel) rfl ?_
                  refine lk_iincN (a := k) (m := 1) (L' := [(0, lk_vr 1 0), (1, lk_vi ((v2) * 27)), (2, lk_vi (nI (c))), (3, lk_vi (nI (k + 1)))]) dX9_name_76 rfl rfl (by decide +kernel) rfl ?_
                  refine lk_goto (tgt := 66) dX9_name_79 (by decide) ?_
                  rw [show 4 - k = (4 - (k + 1)) + 1 by omega, lk_rdn, if_neg (by first | exact hnl.resolve_left (by omega)), show v2 * 27 + 0 = v2 * 27 by simp] at hI2
                  exact ih (k + 1) _ (by omega) (by omega) hI2 (by omega)
            exact LP66 5 c v (by omega) hc4 hI (by omega)
        ·
          have hcl : lk_cur P n e = P 0 e := (lk_curm_lt (Int32.le_trans (by decide) (show 97 ≤ lk_cur P n e by first | exact (show lk_ltr P n e by assumption).1))).2
          have hen : e < n := (lk_curm_lt (Int32.le_trans (by decide) (show 97 ≤ lk_cur P n e by first | exact (show lk_ltr P n e by assumption).1))).1
          refine lk_bipush (v := 27) dX9_name_20 (by decide) ?_
          refine lk_iload_n dX9_name_22 rfl rfl ?_
          refine lk_imul dX9_name_23 ?_
          refine lk_aload_n dX9_name_24 rfl rfl ?_
          refine lk_getR (f := 13) dX9_name_25 rfl fX9_24 (by decide) (by decide) ?_
          refine lk_aload_n dX9_name_28 rfl rfl ?_
          refine lk_getIv (v := (nI (e))) (f := 14) dX9_name_29 rfl fX9_72 (by decide) (by decide) ((lk_bn (by decide)).trans rfl) ?_
          refine lk_ialdN (f := 13) (i := e) dX9_name_32 rfl (by decide) rfl (by omega) (by decide) ?_
          refine lk_eqtop (y := (P 0 e)) ((lk_bn (by decide)).trans (hP e hen)) ?_
          refine lk_iadd dX9_name_33 ?_
          refine lk_bipush (v := 97) dX9_name_34 (by decide) ?_
          refine lk_isub dX9_name_36 ?_
          refine lk_iconst (v := 1) dX9_name_37 (by decide) ?_
          refine lk_iadd dX9_name_38 ?_
          refine lk_istore_n (L' := [(0, lk_vr 1 0), (1, lk_vi ((((27 * (v)) + (P 0 e)) - 97) + 1)), (2, lk_vi (nI (c)))]) dX9_name_39 rfl (by decide +kernel) rfl ?_
          refine lk_aload_n dX9_name_40 rfl rfl ?_
          refine lk_dup dX9_name_41 rfl ?_
          refine lk_getIv (v := (nI (e))) (f := 14) dX9_name_42 rfl fX9_72 (by decide) (by decide) ((lk_bn (by decide)).trans rfl) ?_
          refine lk_iconst (v := 1) dX9_name_45 (by decide) ?_
          refine lk_iaddN (a := e) (b := 1) dX9_name_46 ?_
          refine lk_putI (f := 14) dX9_name_47 rfl fX9_72 (by decide) (by decide) ?_
          refine lk_sg (σ' := (lk_mb (lk_up (lk_up σ 1 14 0 (nI (e))) 1 14 0 (nI (e + 1))) B)) (lk_bf (by decide)) ?_
          refine lk_iincN (a := c) (m := 1) (L' := [(0, lk_vr 1 0), (1, lk_vi ((((27 * (v)) + (P 0 e)) - 97) + 1)), (2, lk_vi (nI (c + 1)))]) dX9_name_50 rfl rfl (by decide +kernel) rfl ?_
          refine lk_goto (tgt := 4) dX9_name_53 (by decide) ?_
          rw [show 4 - c = (4 - (c + 1)) + 1 by omega, lk_rdn, if_pos (show lk_ltr P n e by assumption)] at hI
          refine lk_sg (σ' := lk_mb (lk_up σ 1 14 0 (nI (e + 1))) B) (by congr 1; exact (lk_upm_up _ _ _ _ _ _).symm) ?_
          exact ih (c + 1) (e + 1) _ (by omega) (by omega) (by rw [hI, hcl]; congr 1; grind) (fun h => absurd h (by omega)) (fun _ => by
            rcases Nat.eq_zero_or_pos c with z | z
            · rw [← (hc0 z).1]; assumption
            · exact hc1 z) (by omega)
  refine lk_sg (σ' := lk_mb (lk_up σ 1 14 0 (nI (a))) B) (by rw [← ha]; congr 1; exact lk_upm_self σ 1 14 0) ?_
  exact LP4 5 0 a 0 (by omega) (by omega) hR (fun _ => ⟨rfl, rfl⟩) (fun h => absurd h (by omega)) (by omega)
