theorem lk_fgo_iff {P : lk_O} {n a L : Nat} (hr : ∀ a, a < n → 32 ≤ (P 0 a).toInt ∧ (P 0 a).toInt ≤ 126) (hL : L ≤ 9) : lk_fgo P n a (nI L) = true ↔ (48 ≤ lk_cur P n a ∧ lk_cur P n a ≤ nI (48 + L)) := by
  have hc : -1 ≤ (lk_cur P n a).toInt ∧ (lk_cur P n a).toInt ≤ 126 := by
    unfold lk_cur
    by_cases c : a < n
    · rw [if_pos c]; have := hr a c; omega
    · rw [if_neg c]; decide
  have e := lk_ts (a := lk_cur P n a) (b := 48) rfl (show (48 : Int32).toInt = 48 from rfl) (by omega) (by omega) (by decide) (by decide)
  unfold lk_fgo
  rw [Bool.and_eq_true, decide_eq_true_iff, decide_eq_true_iff, Int32.not_lt, Int32.le_iff_toInt_le, Int32.le_iff_toInt_le, Int32.le_iff_toInt_le, Int32.le_iff_toInt_le, e, nI_toInt (by omega), nI_toInt (by omega), show (0 : Int32).toInt = 0 from rfl, show (48 : Int32).toInt = 48 from rfl]
  omega
theorem lk_eq_b {x c : Int32} : (c ≤ x ∧ x ≤ c) ↔ x = c := ⟨fun h => Int32.le_antisymm h.2 h.1, fun h => by subst h; exact ⟨Int32.le_refl _, Int32.le_refl _⟩⟩
/-- a boat, read by the model -/
def lk_rbP (σ W : lk_N) (P : lk_O) (n a : Nat) (ml : Int32) (t : Nat) : Prop :=
  lk_fx [14, 15, 16, 17] σ W ∧
  ((lk_rdb P n a ml).1 = true → W 1 14 0 = nI (lk_rdb P n a ml).2 ∧ W 1 15 0 = -1 ∧ W 1 17 0 = nI (t + 1) ∧ (∀ f, f < 5 → W 1 16 (5 * t + f) = lk_rdw P n a f) ∧ ∀ x, x < 5 * t → W 1 16 x = σ 1 16 x) ∧
  ((lk_rdb P n a ml).1 = false → W 1 15 0 = nI (lk_rdb P n a ml).2)
theorem lk_rdn_2 (P : lk_O) {n : Nat} (hn : n ≤ 60) {a : Nat} (h : a ≤ n) : (lk_rdn P n 4 a 0).2 ≤ 60 := Nat.le_trans (lk_rdn_le P hn 4 a 0 h) hn
set_option maxHeartbeats 1000000 in
set_option maxRecDepth 100000 in
theorem tX9_figure_ok (l : Launch) (X : lk_G) (d : Nat) (σ : lk_N) (τ : lk_T) (B : lk_O) (P : lk_O) (n : Nat) (hn60 : n ≤ 60) (htp : σ 1 12 0 = nI n) (hP : ∀ a, a < n → σ 1 13 a = P 0 a) (a : Nat) (ha : σ 1 14 0 = nI a) (ha70 : a ≤ 100) (hf : σ 1 15 0 = -1) (hr : ∀ a, a < n → 32 ≤ (P 0 a).toInt ∧ (P 0 a).toInt ≤ 126) (L : Nat) (hL : L ≤ 9) (hg : lk_fgo P n a (nI L) = true) : lk_Mt l X mX9_figure (d + 2) [lk_vr 1 0, lk_vi (nI (L))] (lk_mb σ B) τ (fun rr σ1 τ1 => rr = some (lk_vi (lk_cur P n a - 48)) ∧ σ1 = (lk_mb (lk_up σ 1 14 0 (nI (a + 1))) B) ∧ τ1 = τ) := by
  refine lk_met (L := [(0, lk_vr 1 0), (1, lk_vi (nI (L)))]) (by decide +kernel) (Nat.le_of_ble_eq_true rfl) rfl ?_
  obtain ⟨Q, hQ⟩ : ∃ Q : lk_Q, Q = fun rr σ1 τ1 => rr = some (lk_vi (lk_cur P n a - 48)) ∧ σ1 = (lk_mb (lk_up σ 1 14 0 (nI (a + 1))) B) ∧ τ1 = τ := ⟨_, rfl⟩
  rw [← hQ]
  have hg2 := lk_curm_lt (Int32.le_trans (by decide) ((lk_fgo_iff hr hL).mp hg).1)
  refine lk_aload_n dX9_figure_0 rfl rfl ?_
  refine lk_bipush (v := 48) dX9_figure_1 (by decide) ?_
  refine lk_bipush (v := 48) dX9_figure_3 (by decide) ?_
  refine lk_iload_n dX9_figure_5 rfl rfl ?_
  refine lk_iaddN (a := 48) (b := L) dX9_figure_6 ?_
  refine lk_callV (o := 1) (as := [lk_vi 48, lk_vi (nI (48 + L))]) (S := []) dX9_figure_7 rfl vX9_isFrom rfl lX9_75 rfl rfl (Nat.le_of_ble_eq_true rfl) (tX9_isFrom_ok l X d σ τ (lo := (48 : Int32)) (hi := (nI (48 + L))) (B := B) (P := P) (n := n) (hn60 := hn60) (htp := htp) (hP := hP) (a := a) (ha := ha) (ha70 := by omega) (hf := hf) (hlo := by decide)) ?_
  refine lk_k3 ?_
  refine lk_cast (pc' := 10) (S' := [lk_vi (if (48 : Int32) ≤ lk_cur P n a ∧ lk_cur P n a ≤ (nI (48 + L)) then 1 else 0)]) rfl rfl rfl ?_
  refine lk_if_neB (tgt := 19) dX9_figure_10 (by decide) (fun hh1 => ?_) (fun hh1 => absurd hh1 (fun q => q ((lk_fgo_iff hr hL).mp hg)))
  refine lk_aload_n dX9_figure_19 rfl rfl ?_
  refine lk_dup dX9_figure_20 rfl ?_
  refine lk_getIv (v := (nI (a))) (f := 14) dX9_figure_21 rfl fX9_72 (by decide) (by decide) ((lk_bn (by decide)).trans ha) ?_
  refine lk_iconst (v := 1) dX9_figure_24 (by decide) ?_
  refine lk_iaddN (a := a) (b := 1) dX9_figure_25 ?_
  refine lk_putI (f := 14) dX9_figure_26 rfl fX9_72 (by decide) (by decide) ?_
  refine lk_sg (σ' := (lk_mb (lk_up σ 1 14 0 (nI (a + 1))) B)) (lk_bf (by decide)) ?_
  refine lk_aload_n dX9_figure_29 rfl rfl ?_
  refine lk_getR (f := 13) dX9_figure_30 rfl fX9_24 (by decide) (by decide) ?_
  refine lk_aload_n dX9_figure_33 rfl rfl ?_
  refine lk_getIv (v := (nI (a + 1))) (f := 14) dX9_figure_34 rfl fX9_72 (by decide) (by decide) ((lk_bn (by decide)).trans rfl) ?_
  refine lk_iconst (v := 1) dX9_figure_37 (by decide) ?_
  refine lk_isubN (a := a + 1) (b := 1) dX9_figure_38 (by omega) ?_
  refine lk_ialdN (f := 13) (i := (a + 1) - (1)) dX9_figure_39 rfl (by decide) rfl (by omega) (by decide) ?_
  refine lk_eqtop (y := (P 0 a)) ((lk_bn (by decide)).trans (hP a hg2.1)) ?_
  refine lk_bipush (v := 48) dX9_figure_40 (by decide) ?_
  refine lk_isub dX9_figure_42 ?_
  refine lk_iret .int dX9_figure_43 rfl rfl ?_
  rw [hQ]
  rw [hg2.2]
  exact ⟨rfl, rfl, rfl⟩

set_option maxHeartbeats 1000000 in
set_option maxRecDepth 100000 in
theorem tX9_figure_no (l : Launch) (X : lk_G) (d : Nat) (σ : lk_N) (τ : lk_T) (B : lk_O) (P : lk_O) (n : Nat) (hn60 : n ≤ 60) (htp : σ 1 12 0 = nI n) (hP : ∀ a, a < n → σ 1 13 a = P 0 a) (a : Nat) (ha : σ 1 14 0 = nI a) (ha70 : a ≤ 100) (hf : σ 1 15 0 = -1) (hr : ∀ a, a < n → 32 ≤ (P 0 a).toInt ∧ (P 0 a).toInt ≤ 126) (L : Nat) (hL : L ≤ 9) (hg : lk_fgo P n a (nI L) = false) : lk_Mt l X mX9_figure (d + 2) [lk_vr 1 0, lk_vi (nI (L))] (lk_mb σ B) τ (fun rr σ1 τ1 => rr = some (lk_vi 0) ∧ σ1 = (lk_mb (lk_up σ 1 15 0 (nI (a))) B) ∧ τ1 = τ) := by
  refine lk_met (L := [(0, lk_vr 1 0), (1, lk_vi (nI (L)))]) (by decide +kernel) (Nat.le_of_ble_eq_true rfl) rfl ?_
  obtain ⟨Q, hQ⟩ : ∃ Q : lk_Q, Q = fun rr σ1 τ1 => rr = some (lk_vi 0) ∧ σ1 = (lk_mb (lk_up σ 1 15 0 (nI (a))) B) ∧ τ1 = τ := ⟨_, rfl⟩
  rw [← hQ]
  refine lk_aload_n dX9_figure_0 rfl rfl ?_
  refine lk_bipush (v := 48) dX9_figure_1 (by decide) ?_
  refine lk_bipush (v := 48) dX9_figure_3 (by decide) ?_
  refine lk_iload_n dX9_figure_5 rfl rfl ?_
  refine lk_iaddN (a := 48) (b := L) dX9_figure_6 ?_
  refine lk_callV (o := 1) (as := [lk_vi 48, lk_vi (nI (48 + L))]) (S := []) dX9_figure_7 rfl vX9_isFrom rfl lX9_75 rfl rfl (Nat.le_of_ble_eq_true rfl) (tX9_isFrom_ok l X d σ τ (lo := (48 : Int32)) (hi := (nI (48 + L))) (B := B) (P := P) (n := n) (hn60 := hn60) (htp := htp) (hP := hP) (a := a) (ha := ha) (ha70 := by omega) (hf := hf) (hlo := by decide)) ?_
  refine lk_k3 ?_
  refine lk_cast (pc' := 10) (S' := [lk_vi (if (48 : Int32) ≤ lk_cur P n a ∧ lk_cur P n a ≤ (nI (48 + L)) then 1 else 0)]) rfl rfl rfl ?_
  refine lk_if_neB (tgt := 19) dX9_figure_10 (by decide) (fun hh1 => absurd hh1 (fun q => by rw [(lk_fgo_iff hr hL).mpr q] at hg; cases hg)) (fun hh1 => ?_)
  refine lk_aload_n dX9_figure_13 rfl rfl ?_
  refine lk_callV (o := 1) (as := []) (S := []) dX9_figure_14 rfl vX9_wrong rfl lX9_79 rfl rfl (Nat.le_of_ble_eq_true rfl) (tX9_wrong_ok l X (d + 1) σ τ (B := B) (a := a) (ha := ha) (hf := hf)) ?_
  refine lk_k3 ?_
  refine lk_cast (pc' := 17) (S' := []) rfl rfl rfl ?_
  refine lk_iconst (v := 0) dX9_figure_17 (by decide) ?_
  refine lk_iret .int dX9_figure_18 rfl rfl ?_
  rw [hQ]
  exact ⟨by first | rfl | (simp [*]; done) | (simp_all; done) | grind, by first | rfl | (simp [*]; done), rfl⟩

set_option maxHeartbeats 1000000 in
set_option maxRecDepth 100000 in
theorem tX9_figure_bad (l : Launch) (X : lk_G) (d : Nat) (σ : lk_N) (τ : lk_T) (B : lk_O) (hf : 0 ≤ σ 1 15 0) (L : Nat) : lk_Mt l X mX9_figure (d + 2) [lk_vr 1 0, lk_vi (nI (L))] (lk_mb σ B) τ (fun rr σ1 τ1 => rr = some (lk_vi 0) ∧ σ1 = (lk_mb σ B) ∧ τ1 = τ) := by
  refine lk_met (L := [(0, lk_vr 1 0), (1, lk_vi (nI (L)))]) (by decide +kernel) (Nat.le_of_ble_eq_true rfl) rfl ?_
  obtain ⟨Q, hQ⟩ : ∃ Q : lk_Q, Q = fun rr σ1 τ1 => rr = some (lk_vi 0) ∧ σ1 = (lk_mb σ B) ∧ τ1 = τ := ⟨_, rfl⟩
  rw [← hQ]
  refine lk_aload_n dX9_figure_0 rfl rfl ?_
  refine lk_bipush (v := 48) dX9_figure_1 (by decide) ?_
  refine lk_bipush (v := 48) dX9_figure_3 (by decide) ?_
  refine lk_iload_n dX9_figure_5 rfl rfl ?_
  refine lk_iaddN (a := 48) (b := L) dX9_figure_6 ?_
  refine lk_callV (o := 1) (as := [lk_vi 48, lk_vi (nI (48 + L))]) (S := []) dX9_figure_7 rfl vX9_isFrom rfl lX9_75 rfl rfl (Nat.le_of_ble_eq_true rfl) (tX9_isFrom_bad l X d σ τ (lo := (48 : Int32)) (hi := (nI (48 + L))) (B := B) (hf := hf)) ?_
  refine lk_k3 ?_
  refine lk_cast (pc' := 10) (S' := [lk_vi 0]) rfl rfl rfl ?_
  refine lk_if_ne (tgt := 19) dX9_figure_10 (by decide) (fun hh1 => absurd hh1 (by decide)) (fun hh1 => ?_)
  refine lk_aload_n dX9_figure_13 rfl rfl ?_
  refine lk_callV (o := 1) (as := []) (S := []) dX9_figure_14 rfl vX9_wrong rfl lX9_79 rfl rfl (Nat.le_of_ble_eq_true rfl) (tX9_wrong_bad l X (d + 1) σ τ (B := B) (hf := hf)) ?_
  refine lk_k3 ?_
  refine lk_cast (pc' := 17) (S' := []) rfl rfl rfl ?_
  refine lk_iconst (v := 0) dX9_figure_17 (by decide) ?_
  refine lk_iret .int dX9_figure_18 rfl rfl ?_
  rw [hQ]
  exact ⟨by first | rfl | (simp [*]; done) | (simp_all; done) | grind, by first | rfl | (simp [*]; done), rfl⟩

set_option maxHeartbeats 1000000 in
set_option maxRecDepth 100000 in
theorem tX9_readsBoat (l : Launch) (X : lk_G) (d : Nat) (σ : lk_N) (τ : lk_T) (B : lk_O) (P : lk_O) (n : Nat) (hn60 : n ≤ 60) (htp : σ 1 12 0 = nI n) (hP : ∀ a, a < n → σ 1 13 a = P 0 a) (a : Nat) (ha : σ 1 14 0 = nI a) (han : a ≤ n) (hf : σ 1 15 0 = -1) (hr : ∀ a, a < n → 32 ≤ (P 0 a).toInt ∧ (P 0 a).toInt ≤ 126) (L : Nat) (hL : L ≤ 9) (hml : σ 1 0 53 = nI L) (t : Nat) (ht : σ 1 17 0 = nI t) (ht11 : t ≤ 11) : lk_Mt l X mX9_readsBoat (d + 3) [lk_vr 1 0] (lk_mb σ B) τ (fun rr σ1 τ1 => rr = none ∧ τ1 = τ ∧ ∃ W : lk_N, σ1 = lk_mb W B ∧ lk_rbP σ W P n a (nI L) t) := by
  refine lk_met (L := [(0, lk_vr 1 0)]) (by decide +kernel) (Nat.le_of_ble_eq_true rfl) rfl ?_
  obtain ⟨Q, hQ⟩ : ∃ Q : lk_Q, Q = fun rr σ1 τ1 => rr = none ∧ τ1 = τ ∧ ∃ W : lk_N, σ1 = lk_mb W B ∧ lk_rbP σ W P n a (nI L) t := ⟨_, rfl⟩
  rw [← hQ]
  have hp2 := lk_rdn_2 P hn60 han
  refine lk_iconst (v := 5) dX9_readsBoat_0 (by decide) ?_
  refine lk_aload_n dX9_readsBoat_1 rfl rfl ?_
  refine lk_getIv (v := (nI (t))) (f := 17) dX9_readsBoat_2 rfl fX9_82 (by decide) (by decide) ((lk_bn (by decide)).trans ht) ?_
  refine lk_imulN (a := 5) (b := t) dX9_readsBoat_5 ?_
  refine lk_istore_n (L' := [(0, lk_vr 1 0), (1, lk_vi (nI ((5) * (t))))]) dX9_readsBoat_6 rfl (by decide +kernel) rfl ?_
  refine lk_aload_n dX9_readsBoat_7 rfl rfl ?_
  refine lk_getR (f := 16) dX9_readsBoat_8 rfl fX9_27 (by decide) (by decide) ?_
  refine lk_iload_n dX9_readsBoat_11 rfl rfl ?_
  refine lk_aload_n dX9_readsBoat_12 rfl rfl ?_
  rcases Classical.em ((lk_rdn P n 4 a 0).1 = 0) with hz | hz
  ·
    refine lk_callV (o := 1) (as := []) (S := [lk_vi (nI ((5) * (t))), lk_vr 1 17]) dX9_readsBoat_13 rfl vX9_name rfl lX9_85 rfl rfl (Nat.le_of_ble_eq_true rfl) (tX9_name l X d σ τ (B := B) (P := P) (n := n) (hn60 := hn60) (htp := htp) (hP := hP) (a := a) (ha := ha) (ha70 := by omega) (hf := hf)) ?_
    refine lk_k3 ?_
    refine lk_cast (pc' := 16) (S' := [lk_vi ((lk_rdn P n 4 a 0).1), lk_vi (nI ((5) * (t))), lk_vr 1 17]) rfl rfl rfl ?_
    refine lk_sg (σ' := (lk_mb (lk_up (lk_up σ 1 14 0 (nI ((lk_rdn P n 4 a 0).2))) 1 15 0 (nI ((lk_rdn P n 4 a 0).2))) B)) (by rw [if_pos hz]) ?_
    refine lk_iastN (f := 16) (i := (5) * (t)) (v := ((lk_rdn P n 4 a 0).1)) dX9_readsBoat_16 rfl (by decide) rfl (by omega) (by decide) ?_
    refine lk_sg (σ' := (lk_mb (lk_up (lk_up (lk_up σ 1 14 0 (nI ((lk_rdn P n 4 a 0).2))) 1 15 0 (nI ((lk_rdn P n 4 a 0).2))) 1 16 ((5) * (t)) ((lk_rdn P n 4 a 0).1)) B)) (lk_bf (by decide)) ?_
    refine lk_aload_n dX9_readsBoat_17 rfl rfl ?_
    refine lk_bipush (v := 43) dX9_readsBoat_18 (by decide) ?_
    refine lk_bipush (v := 43) dX9_readsBoat_20 (by decide) ?_
    refine lk_callV (o := 1) (as := [lk_vi 43, lk_vi 43]) (S := []) dX9_readsBoat_22 rfl vX9_isFrom rfl lX9_75 rfl rfl (Nat.le_of_ble_eq_true rfl) (tX9_isFrom_bad l X (d + 1) (lk_up (lk_up (lk_up σ 1 14 0 (nI ((lk_rdn P n 4 a 0).2))) 1 15 0 (nI ((lk_rdn P n 4 a 0).2))) 1 16 ((5) * (t)) ((lk_rdn P n 4 a 0).1)) τ (lo := (43 : Int32)) (hi := (43 : Int32)) (B := B) (hf := nI_pos' (by omega))) ?_
    refine lk_k3 ?_
    refine lk_cast (pc' := 25) (S' := [lk_vi 0]) rfl rfl rfl ?_
    refine lk_if_ne (tgt := 43) dX9_readsBoat_25 (by decide) (fun hh1 => absurd hh1 (by decide)) (fun hh1 => ?_)
    refine lk_aload_n dX9_readsBoat_28 rfl rfl ?_
    refine lk_bipush (v := 45) dX9_readsBoat_29 (by decide) ?_
    refine lk_bipush (v := 45) dX9_readsBoat_31 (by decide) ?_
    refine lk_callV (o := 1) (as := [lk_vi 45, lk_vi 45]) (S := []) dX9_readsBoat_33 rfl vX9_isFrom rfl lX9_75 rfl rfl (Nat.le_of_ble_eq_true rfl) (tX9_isFrom_bad l X (d + 1) (lk_up (lk_up (lk_up σ 1 14 0 (nI ((lk_rdn P n 4 a 0).2))) 1 15 0 (nI ((lk_rdn P n 4 a 0).2))) 1 16 ((5) * (t)) ((lk_rdn P n 4 a 0).1)) τ (lo := (45 : Int32)) (hi := (45 : Int32)) (B := B) (hf := nI_pos' (by omega))) ?_
    refine lk_k3 ?_
    refine lk_cast (pc' := 36) (S' := [lk_vi 0]) rfl rfl rfl ?_
    refine lk_if_ne (tgt := 43) dX9_readsBoat_36 (by decide) (fun hh2 => absurd hh2 (by decide)) (fun hh2 => ?_)
    refine lk_aload_n dX9_readsBoat_39 rfl rfl ?_
    refine lk_callV (o := 1) (as := []) (S := []) dX9_readsBoat_40 rfl vX9_wrong rfl lX9_79 rfl rfl (Nat.le_of_ble_eq_true rfl) (tX9_wrong_bad l X (d + 2) (lk_up (lk_up (lk_up σ 1 14 0 (nI ((lk_rdn P n 4 a 0).2))) 1 15 0 (nI ((lk_rdn P n 4 a 0).2))) 1 16 ((5) * (t)) ((lk_rdn P n 4 a 0).1)) τ (B := B) (hf := nI_pos' (by omega))) ?_
    refine lk_k3 ?_
    refine lk_cast (pc' := 43) (S' := []) rfl rfl rfl ?_
    refine lk_aload_n dX9_readsBoat_43 rfl rfl ?_
    refine lk_getIv (v := (nI ((lk_rdn P n 4 a 0).2))) (f := 15) dX9_readsBoat_44 rfl fX9_69 (by decide) (by decide) ((lk_bn (by decide)).trans rfl) ?_
    refine lk_if_ltN (a := (lk_rdn P n 4 a 0).2) (tgt := 51) dX9_readsBoat_47 (by decide) (by omega) (fun hh3 => absurd hh3 (by omega)) (fun hh3 => ?_)
    refine lk_vret dX9_readsBoat_50 rfl ?_
    rw [hQ]
    have hb : lk_rdb P n a (nI L) = (false, (lk_rdn P n 4 a 0).2) := by
      unfold lk_rdb
      simp only [lk_eq_b] at *
      first
        | contradiction
        | ((try clear hc2)
           (try simp only [show (nI 9 : Int32) = 9 from rfl] at *)
           simp [*])
    exact ⟨rfl, rfl, (lk_up (lk_up (lk_up σ 1 14 0 (nI ((lk_rdn P n 4 a 0).2))) 1 15 0 (nI ((lk_rdn P n 4 a 0).2))) 1 16 ((5) * (t)) ((lk_rdn P n 4 a 0).1)), rfl, (lk_fx_up (lk_fx_up (lk_fx_up (lk_fx_rf _ _) (by decide)) (by decide)) (by decide)), (fun h => by rw [hb] at h; cases h), (fun _ => by rw [hb]; rfl)⟩
  ·
    refine lk_callV (o := 1) (as := []) (S := [lk_vi (nI ((5) * (t))), lk_vr 1 17]) dX9_readsBoat_13 rfl vX9_name rfl lX9_85 rfl rfl (Nat.le_of_ble_eq_true rfl) (tX9_name l X d σ τ (B := B) (P := P) (n := n) (hn60 := hn60) (htp := htp) (hP := hP) (a := a) (ha := ha) (ha70 := by omega) (hf := hf)) ?_
    refine lk_k3 ?_
    refine lk_cast (pc' := 16) (S' := [lk_vi ((lk_rdn P n 4 a 0).1), lk_vi (nI ((5) * (t))), lk_vr 1 17]) rfl rfl rfl ?_
    refine lk_sg (σ' := (lk_mb (lk_up (lk_up σ 1 14 0 (nI ((lk_rdn P n 4 a 0).2))) 1 15 0 (-1)) B)) (by rw [if_neg hz]) ?_
    refine lk_iastN (f := 16) (i := (5) * (t)) (v := ((lk_rdn P n 4 a 0).1)) dX9_readsBoat_16 rfl (by decide) rfl (by omega) (by decide) ?_
    refine lk_sg (σ' := (lk_mb (lk_up (lk_up (lk_up σ 1 14 0 (nI ((lk_rdn P n 4 a 0).2))) 1 15 0 (-1)) 1 16 ((5) * (t)) ((lk_rdn P n 4 a 0).1)) B)) (lk_bf (by decide)) ?_
    refine lk_aload_n dX9_readsBoat_17 rfl rfl ?_
    refine lk_bipush (v := 43) dX9_readsBoat_18 (by decide) ?_
    refine lk_bipush (v := 43) dX9_readsBoat_20 (by decide) ?_
    refine lk_callV (o := 1) (as := [lk_vi 43, lk_vi 43]) (S := []) dX9_readsBoat_22 rfl vX9_isFrom rfl lX9_75 rfl rfl (Nat.le_of_ble_eq_true rfl) (tX9_isFrom_ok l X (d + 1) (lk_up (lk_up (lk_up σ 1 14 0 (nI ((lk_rdn P n 4 a 0).2))) 1 15 0 (-1)) 1 16 ((5) * (t)) ((lk_rdn P n 4 a 0).1)) τ (lo := (43 : Int32)) (hi := (43 : Int32)) (B := B) (P := P) (n := n) (hn60 := hn60) (htp := htp) (hP := hP) (a := (lk_rdn P n 4 a 0).2) (ha := rfl) (ha70 := by omega) (hf := rfl) (hlo := by decide)) ?_
    refine lk_k3 ?_
    refine lk_cast (pc' := 25) (S' := [lk_vi (if (43 : Int32) ≤ lk_cur P n ((lk_rdn P n 4 a 0).2) ∧ lk_cur P n ((lk_rdn P n 4 a 0).2) ≤ (43 : Int32) then 1 else 0)]) rfl rfl rfl ?_
    refine lk_if_neB (tgt := 43) dX9_readsBoat_25 (by decide) (fun hh4 => ?_) (fun hh4 => ?_)
    ·
      refine lk_aload_n dX9_readsBoat_43 rfl rfl ?_
      refine lk_getIv (v := ((-1))) (f := 15) dX9_readsBoat_44 rfl fX9_69 (by decide) (by decide) ((lk_bn (by decide)).trans rfl) ?_
      refine lk_if_lt (tgt := 51) dX9_readsBoat_47 (by decide) (fun hh5 => ?_) (fun hh5 => absurd hh5 (fun q => q (by decide)))
      have hc2 : (lk_rdn P n 4 a 0).2 < n ∧ lk_cur P n (lk_rdn P n 4 a 0).2 = P 0 (lk_rdn P n 4 a 0).2 := by
        apply lk_curm_lt
        first
          | exact Int32.le_trans (by decide) (show 43 ≤ lk_cur P n ((lk_rdn P n 4 a 0).2) ∧ lk_cur P n ((lk_rdn P n 4 a 0).2) ≤ 43 by assumption).1
          | exact Int32.le_trans (by decide) (show 45 ≤ lk_cur P n ((lk_rdn P n 4 a 0).2) ∧ lk_cur P n ((lk_rdn P n 4 a 0).2) ≤ 45 by assumption).1
      refine lk_aload_n dX9_readsBoat_51 rfl rfl ?_
      refine lk_getR (f := 16) dX9_readsBoat_52 rfl fX9_27 (by decide) (by decide) ?_
      refine lk_iload_n dX9_readsBoat_55 rfl rfl ?_
      refine lk_iconst (v := 3) dX9_readsBoat_56 (by decide) ?_
      refine lk_iaddN (a := (5) * (t)) (b := 3) dX9_readsBoat_57 ?_
      refine lk_aload_n dX9_readsBoat_58 rfl rfl ?_
      refine lk_getR (f := 13) dX9_readsBoat_59 rfl fX9_24 (by decide) (by decide) ?_
      refine lk_aload_n dX9_readsBoat_62 rfl rfl ?_
      refine lk_getIv (v := (nI ((lk_rdn P n 4 a 0).2))) (f := 14) dX9_readsBoat_63 rfl fX9_72 (by decide) (by decide) ((lk_bn (by decide)).trans rfl) ?_
      refine lk_ialdN (f := 13) (i := (lk_rdn P n 4 a 0).2) dX9_readsBoat_66 rfl (by decide) rfl (by omega) (by decide) ?_
      refine lk_eqtop (y := (lk_cur P n (lk_rdn P n 4 a 0).2)) ((lk_bn (by decide)).trans ((hP _ hc2.1).trans hc2.2.symm)) ?_
      refine lk_bipush (v := 43) dX9_readsBoat_67 (by decide) ?_
      refine lk_icmp_ne (tgt := 76) dX9_readsBoat_69 (by decide) (fun hh6 => ?_) (fun hh6 => ?_)
      ·
        have hs3 : ¬ lk_cur P n (lk_rdn P n 4 a 0).2 = 43 := by assumption
        refine lk_iconst (v := 0) dX9_readsBoat_76 (by decide) ?_
        refine lk_iastN (f := 16) (i := (5) * (t) + 3) (v := 0) dX9_readsBoat_77 rfl (by decide) rfl (by omega) (by decide) ?_
        refine lk_sg (σ' := (lk_mb (lk_up (lk_up (lk_up (lk_up σ 1 14 0 (nI ((lk_rdn P n 4 a 0).2))) 1 15 0 (-1)) 1 16 ((5) * (t)) ((lk_rdn P n 4 a 0).1)) 1 16 ((5) * (t) + 3) 0) B)) (lk_bf (by decide)) ?_
        refine lk_aload_n dX9_readsBoat_78 rfl rfl ?_
        refine lk_dup dX9_readsBoat_79 rfl ?_
        refine lk_getIv (v := (nI ((lk_rdn P n 4 a 0).2))) (f := 14) dX9_readsBoat_80 rfl fX9_72 (by decide) (by decide) ((lk_bn (by decide)).trans rfl) ?_
        refine lk_iconst (v := 1) dX9_readsBoat_83 (by decide) ?_
        refine lk_iaddN (a := (lk_rdn P n 4 a 0).2) (b := 1) dX9_readsBoat_84 ?_
        refine lk_putI (f := 14) dX9_readsBoat_85 rfl fX9_72 (by decide) (by decide) ?_
        refine lk_sg (σ' := (lk_mb (lk_up (lk_up (lk_up (lk_up (lk_up σ 1 14 0 (nI ((lk_rdn P n 4 a 0).2))) 1 15 0 (-1)) 1 16 ((5) * (t)) ((lk_rdn P n 4 a 0).1)) 1 16 ((5) * (t) + 3) 0) 1 14 0 (nI ((lk_rdn P n 4 a 0).2 + 1))) B)) (lk_bf (by decide)) ?_
        refine lk_aload_n dX9_readsBoat_88 rfl rfl ?_
        refine lk_getR (f := 16) dX9_readsBoat_89 rfl fX9_27 (by decide) (by decide) ?_
        refine lk_iload_n dX9_readsBoat_92 rfl rfl ?_
        refine lk_iconst (v := 1) dX9_readsBoat_93 (by decide) ?_
        refine lk_iaddN (a := (5) * (t)) (b := 1) dX9_readsBoat_94 ?_
        refine lk_aload_n dX9_readsBoat_95 rfl rfl ?_
        refine lk_bipush (v := 9) dX9_readsBoat_96 (by decide) ?_
        rcases hg1 : lk_fgo P n ((lk_rdn P n 4 a 0).2 + 1) (nI 9) with _ | _
        ·
          refine lk_callV (o := 1) (as := [lk_vi 9]) (S := [lk_vi (nI ((5) * (t) + 1)), lk_vr 1 17]) dX9_readsBoat_98 rfl vX9_figure rfl lX9_89 rfl rfl (Nat.le_of_ble_eq_true rfl) (tX9_figure_no l X d (lk_up (lk_up (lk_up (lk_up (lk_up σ 1 14 0 (nI ((lk_rdn P n 4 a 0).2))) 1 15 0 (-1)) 1 16 ((5) * (t)) ((lk_rdn P n 4 a 0).1)) 1 16 ((5) * (t) + 3) 0) 1 14 0 (nI ((lk_rdn P n 4 a 0).2 + 1))) τ (L := (9)) (B := B) (P := P) (n := n) (hn60 := hn60) (htp := htp) (hP := hP) (a := (lk_rdn P n 4 a 0).2 + 1) (ha := rfl) (ha70 := by omega) (hf := rfl) (hr := hr) (hL := by omega) (hg := hg1)) ?_
          refine lk_k3 ?_
          refine lk_cast (pc' := 101) (S' := [lk_vi 0, lk_vi (nI ((5) * (t) + 1)), lk_vr 1 17]) rfl rfl rfl ?_
          refine lk_iastN (f := 16) (i := (5) * (t) + 1) (v := 0) dX9_readsBoat_101 rfl (by decide) rfl (by omega) (by decide) ?_
          refine lk_sg (σ' := (lk_mb (lk_up (lk_up (lk_up (lk_up (lk_up (lk_up (lk_up σ 1 14 0 (nI ((lk_rdn P n 4 a 0).2))) 1 15 0 (-1)) 1 16 ((5) * (t)) ((lk_rdn P n 4 a 0).1)) 1 16 ((5) * (t) + 3) 0) 1 14 0 (nI ((lk_rdn P n 4 a 0).2 + 1))) 1 15 0 (nI (((lk_rdn P n 4 a 0).2 + 1)))) 1 16 ((5) * (t) + 1) 0) B)) (lk_bf (by decide)) ?_
          refine lk_aload_n dX9_readsBoat_102 rfl rfl ?_
          refine lk_getR (f := 16) dX9_readsBoat_103 rfl fX9_27 (by decide) (by decide) ?_
          refine lk_iload_n dX9_readsBoat_106 rfl rfl ?_
          refine lk_iconst (v := 2) dX9_readsBoat_107 (by decide) ?_
          refine lk_iaddN (a := (5) * (t)) (b := 2) dX9_readsBoat_108 ?_
          refine lk_aload_n dX9_readsBoat_109 rfl rfl ?_
          refine lk_bipush (v := 9) dX9_readsBoat_110 (by decide) ?_
          refine lk_callV (o := 1) (as := [lk_vi 9]) (S := [lk_vi (nI ((5) * (t) + 2)), lk_vr 1 17]) dX9_readsBoat_112 rfl vX9_figure rfl lX9_89 rfl rfl (Nat.le_of_ble_eq_true rfl) (tX9_figure_bad l X d (lk_up (lk_up (lk_up (lk_up (lk_up (lk_up (lk_up σ 1 14 0 (nI ((lk_rdn P n 4 a 0).2))) 1 15 0 (-1)) 1 16 ((5) * (t)) ((lk_rdn P n 4 a 0).1)) 1 16 ((5) * (t) + 3) 0) 1 14 0 (nI ((lk_rdn P n 4 a 0).2 + 1))) 1 15 0 (nI (((lk_rdn P n 4 a 0).2 + 1)))) 1 16 ((5) * (t) + 1) 0) τ (L := (9)) (B := B) (hf := nI_pos' (by omega))) ?_
          refine lk_k3 ?_
          refine lk_cast (pc' := 115) (S' := [lk_vi 0, lk_vi (nI ((5) * (t) + 2)), lk_vr 1 17]) rfl rfl rfl ?_
          refine lk_iastN (f := 16) (i := (5) * (t) + 2) (v := 0) dX9_readsBoat_115 rfl (by decide) rfl (by omega) (by decide) ?_
          refine lk_sg (σ' := (lk_mb (lk_up (lk_up (lk_up (lk_up (lk_up (lk_up (lk_up (lk_up σ 1 14 0 (nI ((lk_rdn P n 4 a 0).2))) 1 15 0 (-1)) 1 16 ((5) * (t)) ((lk_rdn P n 4 a 0).1)) 1 16 ((5) * (t) + 3) 0) 1 14 0 (nI ((lk_rdn P n 4 a 0).2 + 1))) 1 15 0 (nI (((lk_rdn P n 4 a 0).2 + 1)))) 1 16 ((5) * (t) + 1) 0) 1 16 ((5) * (t) + 2) 0) B)) (lk_bf (by decide)) ?_
          refine lk_aload_n dX9_readsBoat_116 rfl rfl ?_
          refine lk_getR (f := 16) dX9_readsBoat_117 rfl fX9_27 (by decide) (by decide) ?_
          refine lk_iload_n dX9_readsBoat_120 rfl rfl ?_
          refine lk_iconst (v := 4) dX9_readsBoat_121 (by decide) ?_
          refine lk_iaddN (a := (5) * (t)) (b := 4) dX9_readsBoat_122 ?_
          refine lk_aload_n dX9_readsBoat_123 rfl rfl ?_
          refine lk_aload_n dX9_readsBoat_124 rfl rfl ?_
          refine lk_getR (f := 0) dX9_readsBoat_125 rfl fX9_9 (by decide) (by decide) ?_
          refine lk_bipush (v := 53) dX9_readsBoat_128 (by decide) ?_
          refine lk_ialdN (f := 0) (i := 53) dX9_readsBoat_130 rfl (by decide) rfl (by omega) (by decide) ?_
          refine lk_eqtop (y := (nI (L))) ((lk_bo (by decide)).trans hml) ?_
          refine lk_callV (o := 1) (as := [lk_vi (nI (L))]) (S := [lk_vi (nI ((5) * (t) + 4)), lk_vr 1 17]) dX9_readsBoat_131 rfl vX9_figure rfl lX9_89 rfl rfl (Nat.le_of_ble_eq_true rfl) (tX9_figure_bad l X d (lk_up (lk_up (lk_up (lk_up (lk_up (lk_up (lk_up (lk_up σ 1 14 0 (nI ((lk_rdn P n 4 a 0).2))) 1 15 0 (-1)) 1 16 ((5) * (t)) ((lk_rdn P n 4 a 0).1)) 1 16 ((5) * (t) + 3) 0) 1 14 0 (nI ((lk_rdn P n 4 a 0).2 + 1))) 1 15 0 (nI (((lk_rdn P n 4 a 0).2 + 1)))) 1 16 ((5) * (t) + 1) 0) 1 16 ((5) * (t) + 2) 0) τ (L := (L)) (B := B) (hf := nI_pos' (by omega))) ?_
          refine lk_k3 ?_
          refine lk_cast (pc' := 134) (S' := [lk_vi 0, lk_vi (nI ((5) * (t) + 4)), lk_vr 1 17]) rfl rfl rfl ?_
          refine lk_iastN (f := 16) (i := (5) * (t) + 4) (v := 0) dX9_readsBoat_134 rfl (by decide) rfl (by omega) (by decide) ?_
          refine lk_sg (σ' := (lk_mb (lk_up (lk_up (lk_up (lk_up (lk_up (lk_up (lk_up (lk_up (lk_up σ 1 14 0 (nI ((lk_rdn P n 4 a 0).2))) 1 15 0 (-1)) 1 16 ((5) * (t)) ((lk_rdn P n 4 a 0).1)) 1 16 ((5) * (t) + 3) 0) 1 14 0 (nI ((lk_rdn P n 4 a 0).2 + 1))) 1 15 0 (nI (((lk_rdn P n 4 a 0).2 + 1)))) 1 16 ((5) * (t) + 1) 0) 1 16 ((5) * (t) + 2) 0) 1 16 ((5) * (t) + 4) 0) B)) (lk_bf (by decide)) ?_
          refine lk_aload_n dX9_readsBoat_135 rfl rfl ?_
          refine lk_dup dX9_readsBoat_136 rfl ?_
          refine lk_getIv (v := (nI (t))) (f := 17) dX9_readsBoat_137 rfl fX9_82 (by decide) (by decide) ((lk_bn (by decide)).trans ht) ?_
          refine lk_iconst (v := 1) dX9_readsBoat_140 (by decide) ?_
          refine lk_iaddN (a := t) (b := 1) dX9_readsBoat_141 ?_
          refine lk_putI (f := 17) dX9_readsBoat_142 rfl fX9_82 (by decide) (by decide) ?_
          refine lk_sg (σ' := (lk_mb (lk_up (lk_up (lk_up (lk_up (lk_up (lk_up (lk_up (lk_up (lk_up (lk_up σ 1 14 0 (nI ((lk_rdn P n 4 a 0).2))) 1 15 0 (-1)) 1 16 ((5) * (t)) ((lk_rdn P n 4 a 0).1)) 1 16 ((5) * (t) + 3) 0) 1 14 0 (nI ((lk_rdn P n 4 a 0).2 + 1))) 1 15 0 (nI (((lk_rdn P n 4 a 0).2 + 1)))) 1 16 ((5) * (t) + 1) 0) 1 16 ((5) * (t) + 2) 0) 1 16 ((5) * (t) + 4) 0) 1 17 0 (nI (t + 1))) B)) (lk_bf (by decide)) ?_
          refine lk_vret dX9_readsBoat_145 rfl ?_
          rw [hQ]
          have hb : lk_rdb P n a (nI L) = (false, ((lk_rdn P n 4 a 0).2 + 1)) := by
            unfold lk_rdb
            simp only [lk_eq_b] at *
            first
              | contradiction
              | ((try clear hc2)
                 (try simp only [show (nI 9 : Int32) = 9 from rfl] at *)
                 simp [*])
          exact ⟨rfl, rfl, (lk_up (lk_up (lk_up (lk_up (lk_up (lk_up (lk_up (lk_up (lk_up (lk_up σ 1 14 0 (nI ((lk_rdn P n 4 a 0).2))) 1 15 0 (-1)) 1 16 ((5) * (t)) ((lk_rdn P n 4 a 0).1)) 1 16 ((5) * (t) + 3) 0) 1 14 0 (nI ((lk_rdn P n 4 a 0).2 + 1))) 1 15 0 (nI (((lk_rdn P n 4 a 0).2 + 1)))) 1 16 ((5) * (t) + 1) 0) 1 16 ((5) * (t) + 2) 0) 1 16 ((5) * (t) + 4) 0) 1 17 0 (nI (t + 1))), rfl, (lk_fx_up (lk_fx_up (lk_fx_up (lk_fx_up (lk_fx_up (lk_fx_up (lk_fx_up (lk_fx_up (lk_fx_up (lk_fx_up (lk_fx_rf _ _) (by decide)) (by decide)) (by decide)) (by decide)) (by decide)) (by decide)) (by decide)) (by decide)) (by decide)) (by decide)), (fun h => by rw [hb] at h; cases h), (fun _ => by rw [hb]; rfl)⟩
        ·
          refine lk_callV (o := 1) (as := [lk_vi 9]) (S := [lk_vi (nI ((5) * (t) + 1)), lk_vr 1 17]) dX9_readsBoat_98 rfl vX9_figure rfl lX9_89 rfl rfl (Nat.le_of_ble_eq_true rfl) (tX9_figure_ok l X d (lk_up (lk_up (lk_up (lk_up (lk_up σ 1 14 0 (nI ((lk_rdn P n 4 a 0).2))) 1 15 0 (-1)) 1 16 ((5) * (t)) ((lk_rdn P n 4 a 0).1)) 1 16 ((5) * (t) + 3) 0) 1 14 0 (nI ((lk_rdn P n 4 a 0).2 + 1))) τ (L := (9)) (B := B) (P := P) (n := n) (hn60 := hn60) (htp := htp) (hP := hP) (a := (lk_rdn P n 4 a 0).2 + 1) (ha := rfl) (ha70 := by omega) (hf := rfl) (hr := hr) (hL := by omega) (hg := hg1)) ?_
          refine lk_k3 ?_
          refine lk_cast (pc' := 101) (S' := [lk_vi (lk_cur P n ((lk_rdn P n 4 a 0).2 + 1) - 48), lk_vi (nI ((5) * (t) + 1)), lk_vr 1 17]) rfl rfl rfl ?_
          refine lk_iastN (f := 16) (i := (5) * (t) + 1) (v := (lk_cur P n ((lk_rdn P n 4 a 0).2 + 1) - 48)) dX9_readsBoat_101 rfl (by decide) rfl (by omega) (by decide) ?_
          refine lk_sg (σ' := (lk_mb (lk_up (lk_up (lk_up (lk_up (lk_up (lk_up (lk_up σ 1 14 0 (nI ((lk_rdn P n 4 a 0).2))) 1 15 0 (-1)) 1 16 ((5) * (t)) ((lk_rdn P n 4 a 0).1)) 1 16 ((5) * (t) + 3) 0) 1 14 0 (nI ((lk_rdn P n 4 a 0).2 + 1))) 1 14 0 (nI (((lk_rdn P n 4 a 0).2 + 1) + 1))) 1 16 ((5) * (t) + 1) (lk_cur P n ((lk_rdn P n 4 a 0).2 + 1) - 48)) B)) (lk_bf (by decide)) ?_
          refine lk_aload_n dX9_readsBoat_102 rfl rfl ?_
          refine lk_getR (f := 16) dX9_readsBoat_103 rfl fX9_27 (by decide) (by decide) ?_
          refine lk_iload_n dX9_readsBoat_106 rfl rfl ?_
          refine lk_iconst (v := 2) dX9_readsBoat_107 (by decide) ?_
          refine lk_iaddN (a := (5) * (t)) (b := 2) dX9_readsBoat_108 ?_
          refine lk_aload_n dX9_readsBoat_109 rfl rfl ?_
          refine lk_bipush (v := 9) dX9_readsBoat_110 (by decide) ?_
          rcases hg2 : lk_fgo P n (((lk_rdn P n 4 a 0).2 + 1) + 1) (nI 9) with _ | _
          ·
            refine lk_callV (o := 1) (as := [lk_vi 9]) (S := [lk_vi (nI ((5) * (t) + 2)), lk_vr 1 17]) dX9_readsBoat_112 rfl vX9_figure rfl lX9_89 rfl rfl (Nat.le_of_ble_eq_true rfl) (tX9_figure_no l X d (lk_up (lk_up (lk_up (lk_up (lk_up (lk_up (lk_up σ 1 14 0 (nI ((lk_rdn P n 4 a 0).2))) 1 15 0 (-1)) 1 16 ((5) * (t)) ((lk_rdn P n 4 a 0).1)) 1 16 ((5) * (t) + 3) 0) 1 14 0 (nI ((lk_rdn P n 4 a 0).2 + 1))) 1 14 0 (nI (((lk_rdn P n 4 a 0).2 + 1) + 1))) 1 16 ((5) * (t) + 1) (lk_cur P n ((lk_rdn P n 4 a 0).2 + 1) - 48)) τ (L := (9)) (B := B) (P := P) (n := n) (hn60 := hn60) (htp := htp) (hP := hP) (a := ((lk_rdn P n 4 a 0).2 + 1) + 1) (ha := rfl) (ha70 := by omega) (hf := rfl) (hr := hr) (hL := by omega) (hg := hg2)) ?_
            refine lk_k3 ?_
            refine lk_cast (pc' := 115) (S' := [lk_vi 0, lk_vi (nI ((5) * (t) + 2)), lk_vr 1 17]) rfl rfl rfl ?_
            refine lk_iastN (f := 16) (i := (5) * (t) + 2) (v := 0) dX9_readsBoat_115 rfl (by decide) rfl (by omega) (by decide) ?_
            refine lk_sg (σ' := (lk_mb (lk_up (lk_up (lk_up (lk_up (lk_up (lk_up (lk_up (lk_up (lk_up σ 1 14 0 (nI ((lk_rdn P n 4 a 0).2))) 1 15 0 (-1)) 1 16 ((5) * (t)) ((lk_rdn P n 4 a 0).1)) 1 16 ((5) * (t) + 3) 0) 1 14 0 (nI ((lk_rdn P n 4 a 0).2 + 1))) 1 14 0 (nI (((lk_rdn P n 4 a 0).2 + 1) + 1))) 1 16 ((5) * (t) + 1) (lk_cur P n ((lk_rdn P n 4 a 0).2 + 1) - 48)) 1 15 0 (nI ((((lk_rdn P n 4 a 0).2 + 1) + 1)))) 1 16 ((5) * (t) + 2) 0) B)) (lk_bf (by decide)) ?_
            refine lk_aload_n dX9_readsBoat_116 rfl rfl ?_
            refine lk_getR (f := 16) dX9_readsBoat_117 rfl fX9_27 (by decide) (by decide) ?_
            refine lk_iload_n dX9_readsBoat_120 rfl rfl ?_
            refine lk_iconst (v := 4) dX9_readsBoat_121 (by decide) ?_
            refine lk_iaddN (a := (5) * (t)) (b := 4) dX9_readsBoat_122 ?_
            refine lk_aload_n dX9_readsBoat_123 rfl rfl ?_
            refine lk_aload_n dX9_readsBoat_124 rfl rfl ?_
            refine lk_getR (f := 0) dX9_readsBoat_125 rfl fX9_9 (by decide) (by decide) ?_
            refine lk_bipush (v := 53) dX9_readsBoat_128 (by decide) ?_
            refine lk_ialdN (f := 0) (i := 53) dX9_readsBoat_130 rfl (by decide) rfl (by omega) (by decide) ?_
            refine lk_eqtop (y := (nI (L))) ((lk_bo (by decide)).trans hml) ?_
            refine lk_callV (o := 1) (as := [lk_vi (nI (L))]) (S := [lk_vi (nI ((5) * (t) + 4)), lk_vr 1 17]) dX9_readsBoat_131 rfl vX9_figure rfl lX9_89 rfl rfl (Nat.le_of_ble_eq_true rfl) (tX9_figure_bad l X d (lk_up (lk_up (lk_up (lk_up (lk_up (lk_up (lk_up (lk_up (lk_up σ 1 14 0 (nI ((lk_rdn P n 4 a 0).2))) 1 15 0 (-1)) 1 16 ((5) * (t)) ((lk_rdn P n 4 a 0).1)) 1 16 ((5) * (t) + 3) 0) 1 14 0 (nI ((lk_rdn P n 4 a 0).2 + 1))) 1 14 0 (nI (((lk_rdn P n 4 a 0).2 + 1) + 1))) 1 16 ((5) * (t) + 1) (lk_cur P n ((lk_rdn P n 4 a 0).2 + 1) - 48)) 1 15 0 (nI ((((lk_rdn P n 4 a 0).2 + 1) + 1)))) 1 16 ((5) * (t) + 2) 0) τ (L := (L)) (B := B) (hf := nI_pos' (by omega))) ?_
            refine lk_k3 ?_
            refine lk_cast (pc' := 134) (S' := [lk_vi 0, lk_vi (nI ((5) * (t) + 4)), lk_vr 1 17]) rfl rfl rfl ?_
            refine lk_iastN (f := 16) (i := (5) * (t) + 4) (v := 0) dX9_readsBoat_134 rfl (by decide) rfl (by omega) (by decide) ?_
            refine lk_sg (σ' := (lk_mb (lk_up (lk_up (lk_up (lk_up (lk_up (lk_up (lk_up (lk_up (lk_up (lk_up σ 1 14 0 (nI ((lk_rdn P n 4 a 0).2))) 1 15 0 (-1)) 1 16 ((5) * (t)) ((lk_rdn P n 4 a 0).1)) 1 16 ((5) * (t) + 3) 0) 1 14 0 (nI ((lk_rdn P n 4 a 0).2 + 1))) 1 14 0 (nI (((lk_rdn P n 4 a 0).2 + 1) + 1))) 1 16 ((5) * (t) + 1) (lk_cur P n ((lk_rdn P n 4 a 0).2 + 1) - 48)) 1 15 0 (nI ((((lk_rdn P n 4 a 0).2 + 1) + 1)))) 1 16 ((5) * (t) + 2) 0) 1 16 ((5) * (t) + 4) 0) B)) (lk_bf (by decide)) ?_
            refine lk_aload_n dX9_readsBoat_135 rfl rfl ?_
            refine lk_dup dX9_readsBoat_136 rfl ?_
            refine lk_getIv (v := (nI (t))) (f := 17) dX9_readsBoat_137 rfl fX9_82 (by decide) (by decide) ((lk_bn (by decide)).trans ht) ?_
            refine lk_iconst (v := 1) dX9_readsBoat_140 (by decide) ?_
            refine lk_iaddN (a := t) (b := 1) dX9_readsBoat_141 ?_
            refine lk_putI (f := 17) dX9_readsBoat_142 rfl fX9_82 (by decide) (by decide) ?_
            refine lk_sg (σ' := (lk_mb (lk_up (lk_up (lk_up (lk_up (lk_up (lk_up (lk_up (lk_up (lk_up (lk_up (lk_up σ 1 14 0 (nI ((lk_rdn P n 4 a 0).2))) 1 15 0 (-1)) 1 16 ((5) * (t)) ((lk_rdn P n 4 a 0).1)) 1 16 ((5) * (t) + 3) 0) 1 14 0 (nI ((lk_rdn P n 4 a 0).2 + 1))) 1 14 0 (nI (((lk_rdn P n 4 a 0).2 + 1) + 1))) 1 16 ((5) * (t) + 1) (lk_cur P n ((lk_rdn P n 4 a 0).2 + 1) - 48)) 1 15 0 (nI ((((lk_rdn P n 4 a 0).2 + 1) + 1)))) 1 16 ((5) * (t) + 2) 0) 1 16 ((5) * (t) + 4) 0) 1 17 0 (nI (t + 1))) B)) (lk_bf (by decide)) ?_
            refine lk_vret dX9_readsBoat_145 rfl ?_
            rw [hQ]
            have hb : lk_rdb P n a (nI L) = (false, (((lk_rdn P n 4 a 0).2 + 1) + 1)) := by
              unfold lk_rdb
              simp only [lk_eq_b] at *
              first
                | contradiction
                | ((try clear hc2)
                   (try simp only [show (nI 9 : Int32) = 9 from rfl] at *)
                   simp [*])
            exact ⟨rfl, rfl, (lk_up (lk_up (lk_up (lk_up (lk_up (lk_up (lk_up (lk_up (lk_up (lk_up (lk_up σ 1 14 0 (nI ((lk_rdn P n 4 a 0).2))) 1 15 0 (-1)) 1 16 ((5) * (t)) ((lk_rdn P n 4 a 0).1)) 1 16 ((5) * (t) + 3) 0) 1 14 0 (nI ((lk_rdn P n 4 a 0).2 + 1))) 1 14 0 (nI (((lk_rdn P n 4 a 0).2 + 1) + 1))) 1 16 ((5) * (t) + 1) (lk_cur P n ((lk_rdn P n 4 a 0).2 + 1) - 48)) 1 15 0 (nI ((((lk_rdn P n 4 a 0).2 + 1) + 1)))) 1 16 ((5) * (t) + 2) 0) 1 16 ((5) * (t) + 4) 0) 1 17 0 (nI (t + 1))), rfl, (lk_fx_up (lk_fx_up (lk_fx_up (lk_fx_up (lk_fx_up (lk_fx_up (lk_fx_up (lk_fx_up (lk_fx_up (lk_fx_up (lk_fx_up (lk_fx_rf _ _) (by decide)) (by decide)) (by decide)) (by decide)) (by decide)) (by decide)) (by decide)) (by decide)) (by decide)) (by decide)) (by decide)), (fun h => by rw [hb] at h; cases h), (fun _ => by rw [hb]; rfl)⟩
          ·
            refine lk_callV (o := 1) (as := [lk_vi 9]) (S := [lk_vi (nI ((5) * (t) + 2)), lk_vr 1 17]) dX9_readsBoat_112 rfl vX9_figure rfl lX9_89 rfl rfl (Nat.le_of_ble_eq_true rfl) (tX9_figure_ok l X d (lk_up (lk_up (lk_up (lk_up (lk_up (lk_up (lk_up σ 1 14 0 (nI ((lk_rdn P n 4 a 0).2))) 1 15 0 (-1)) 1 16 ((5) * (t)) ((lk_rdn P n 4 a 0).1)) 1 16 ((5) * (t) + 3) 0) 1 14 0 (nI ((lk_rdn P n 4 a 0).2 + 1))) 1 14 0 (nI (((lk_rdn P n 4 a 0).2 + 1) + 1))) 1 16 ((5) * (t) + 1) (lk_cur P n ((lk_rdn P n 4 a 0).2 + 1) - 48)) τ (L := (9)) (B := B) (P := P) (n := n) (hn60 := hn60) (htp := htp) (hP := hP) (a := ((lk_rdn P n 4 a 0).2 + 1) + 1) (ha := rfl) (ha70 := by omega) (hf := rfl) (hr := hr) (hL := by omega) (hg := hg2)) ?_
            refine lk_k3 ?_
            refine lk_cast (pc' := 115) (S' := [lk_vi (lk_cur P n (((lk_rdn P n 4 a 0).2 + 1) + 1) - 48), lk_vi (nI ((5) * (t) + 2)), lk_vr 1 17]) rfl rfl rfl ?_
            refine lk_iastN (f := 16) (i := (5) * (t) + 2) (v := (lk_cur P n (((lk_rdn P n 4 a 0).2 + 1) + 1) - 48)) dX9_readsBoat_115 rfl (by decide) rfl (by omega) (by decide) ?_
            refine lk_sg (σ' := (lk_mb (lk_up (lk_up (lk_up (lk_up (lk_up (lk_up (lk_up (lk_up (lk_up σ 1 14 0 (nI ((lk_rdn P n 4 a 0).2))) 1 15 0 (-1)) 1 16 ((5) * (t)) ((lk_rdn P n 4 a 0).1)) 1 16 ((5) * (t) + 3) 0) 1 14 0 (nI ((lk_rdn P n 4 a 0).2 + 1))) 1 14 0 (nI (((lk_rdn P n 4 a 0).2 + 1) + 1))) 1 16 ((5) * (t) + 1) (lk_cur P n ((lk_rdn P n 4 a 0).2 + 1) - 48)) 1 14 0 (nI ((((lk_rdn P n 4 a 0).2 + 1) + 1) + 1))) 1 16 ((5) * (t) + 2) (lk_cur P n (((lk_rdn P n 4 a 0).2 + 1) + 1) - 48)) B)) (lk_bf (by decide)) ?_
            refine lk_aload_n dX9_readsBoat_116 rfl rfl ?_
            refine lk_getR (f := 16) dX9_readsBoat_117 rfl fX9_27 (by decide) (by decide) ?_
            refine lk_iload_n dX9_readsBoat_120 rfl rfl ?_
            refine lk_iconst (v := 4) dX9_readsBoat_121 (by decide) ?_
            refine lk_iaddN (a := (5) * (t)) (b := 4) dX9_readsBoat_122 ?_
            refine lk_aload_n dX9_readsBoat_123 rfl rfl ?_
            refine lk_aload_n dX9_readsBoat_124 rfl rfl ?_
            refine lk_getR (f := 0) dX9_readsBoat_125 rfl fX9_9 (by decide) (by decide) ?_
            refine lk_bipush (v := 53) dX9_readsBoat_128 (by decide) ?_
            refine lk_ialdN (f := 0) (i := 53) dX9_readsBoat_130 rfl (by decide) rfl (by omega) (by decide) ?_
            refine lk_eqtop (y := (nI (L))) ((lk_bo (by decide)).trans hml) ?_
            rcases hg3 : lk_fgo P n ((((lk_rdn P n 4 a 0).2 + 1) + 1) + 1) (nI L) with _ | _
            ·
              refine lk_callV (o := 1) (as := [lk_vi (nI (L))]) (S := [lk_vi (nI ((5) * (t) + 4)), lk_vr 1 17]) dX9_readsBoat_131 rfl vX9_figure rfl lX9_89 rfl rfl (Nat.le_of_ble_eq_true rfl) (tX9_figure_no l X d (lk_up (lk_up (lk_up (lk_up (lk_up (lk_up (lk_up (lk_up (lk_up σ 1 14 0 (nI ((lk_rdn P n 4 a 0).2))) 1 15 0 (-1)) 1 16 ((5) * (t)) ((lk_rdn P n 4 a 0).1)) 1 16 ((5) * (t) + 3) 0) 1 14 0 (nI ((lk_rdn P n 4 a 0).2 + 1))) 1 14 0 (nI (((lk_rdn P n 4 a 0).2 + 1) + 1))) 1 16 ((5) * (t) + 1) (lk_cur P n ((lk_rdn P n 4 a 0).2 + 1) - 48)) 1 14 0 (nI ((((lk_rdn P n 4 a 0).2 + 1) + 1) + 1))) 1 16 ((5) * (t) + 2) (lk_cur P n (((lk_rdn P n 4 a 0).2 + 1) + 1) - 48)) τ (L := (L)) (B := B) (P := P) (n := n) (hn60 := hn60) (htp := htp) (hP := hP) (a := (((lk_rdn P n 4 a 0).2 + 1) + 1) + 1) (ha := rfl) (ha70 := by omega) (hf := rfl) (hr := hr) (hL := by omega) (hg := hg3)) ?_
              refine lk_k3 ?_
              refine lk_cast (pc' := 134) (S' := [lk_vi 0, lk_vi (nI ((5) * (t) + 4)), lk_vr 1 17]) rfl rfl rfl ?_
              refine lk_iastN (f := 16) (i := (5) * (t) + 4) (v := 0) dX9_readsBoat_134 rfl (by decide) rfl (by omega) (by decide) ?_
              refine lk_sg (σ' := (lk_mb (lk_up (lk_up (lk_up (lk_up (lk_up (lk_up (lk_up (lk_up (lk_up (lk_up (lk_up σ 1 14 0 (nI ((lk_rdn P n 4 a 0).2))) 1 15 0 (-1)) 1 16 ((5) * (t)) ((lk_rdn P n 4 a 0).1)) 1 16 ((5) * (t) + 3) 0) 1 14 0 (nI ((lk_rdn P n 4 a 0).2 + 1))) 1 14 0 (nI (((lk_rdn P n 4 a 0).2 + 1) + 1))) 1 16 ((5) * (t) + 1) (lk_cur P n ((lk_rdn P n 4 a 0).2 + 1) - 48)) 1 14 0 (nI ((((lk_rdn P n 4 a 0).2 + 1) + 1) + 1))) 1 16 ((5) * (t) + 2) (lk_cur P n (((lk_rdn P n 4 a 0).2 + 1) + 1) - 48)) 1 15 0 (nI (((((lk_rdn P n 4 a 0).2 + 1) + 1) + 1)))) 1 16 ((5) * (t) + 4) 0) B)) (lk_bf (by decide)) ?_
              refine lk_aload_n dX9_readsBoat_135 rfl rfl ?_
              refine lk_dup dX9_readsBoat_136 rfl ?_
              refine lk_getIv (v := (nI (t))) (f := 17) dX9_readsBoat_137 rfl fX9_82 (by decide) (by decide) ((lk_bn (by decide)).trans ht) ?_
              refine lk_iconst (v := 1) dX9_readsBoat_140 (by decide) ?_
              refine lk_iaddN (a := t) (b := 1) dX9_readsBoat_141 ?_
              refine lk_putI (f := 17) dX9_readsBoat_142 rfl fX9_82 (by decide) (by decide) ?_
              refine lk_sg (σ' := (lk_mb (lk_up (lk_up (lk_up (lk_up (lk_up (lk_up (lk_up (lk_up (lk_up (lk_up (lk_up (lk_up σ 1 14 0 (nI ((lk_rdn P n 4 a 0).2))) 1 15 0 (-1)) 1 16 ((5) * (t)) ((lk_rdn P n 4 a 0).1)) 1 16 ((5) * (t) + 3) 0) 1 14 0 (nI ((lk_rdn P n 4 a 0).2 + 1))) 1 14 0 (nI (((lk_rdn P n 4 a 0).2 + 1) + 1))) 1 16 ((5) * (t) + 1) (lk_cur P n ((lk_rdn P n 4 a 0).2 + 1) - 48)) 1 14 0 (nI ((((lk_rdn P n 4 a 0).2 + 1) + 1) + 1))) 1 16 ((5) * (t) + 2) (lk_cur P n (((lk_rdn P n 4 a 0).2 + 1) + 1) - 48)) 1 15 0 (nI (((((lk_rdn P n 4 a 0).2 + 1) + 1) + 1)))) 1 16 ((5) * (t) + 4) 0) 1 17 0 (nI (t + 1))) B)) (lk_bf (by decide)) ?_
              refine lk_vret dX9_readsBoat_145 rfl ?_
              rw [hQ]
              have hb : lk_rdb P n a (nI L) = (false, ((((lk_rdn P n 4 a 0).2 + 1) + 1) + 1)) := by
                unfold lk_rdb
                simp only [lk_eq_b] at *
                first
                  | contradiction
                  | ((try clear hc2)
                     (try simp only [show (nI 9 : Int32) = 9 from rfl] at *)
                     simp [*])
              exact ⟨rfl, rfl, (lk_up (lk_up (lk_up (lk_up (lk_up (lk_up (lk_up (lk_up (lk_up (lk_up (lk_up (lk_up σ 1 14 0 (nI ((lk_rdn P n 4 a 0).2))) 1 15 0 (-1)) 1 16 ((5) * (t)) ((lk_rdn P n 4 a 0).1)) 1 16 ((5) * (t) + 3) 0) 1 14 0 (nI ((lk_rdn P n 4 a 0).2 + 1))) 1 14 0 (nI (((lk_rdn P n 4 a 0).2 + 1) + 1))) 1 16 ((5) * (t) + 1) (lk_cur P n ((lk_rdn P n 4 a 0).2 + 1) - 48)) 1 14 0 (nI ((((lk_rdn P n 4 a 0).2 + 1) + 1) + 1))) 1 16 ((5) * (t) + 2) (lk_cur P n (((lk_rdn P n 4 a 0).2 + 1) + 1) - 48)) 1 15 0 (nI (((((lk_rdn P n 4 a 0).2 + 1) + 1) + 1)))) 1 16 ((5) * (t) + 4) 0) 1 17 0 (nI (t + 1))), rfl, (lk_fx_up (lk_fx_up (lk_fx_up (lk_fx_up (lk_fx_up (lk_fx_up (lk_fx_up (lk_fx_up (lk_fx_up (lk_fx_up (lk_fx_up (lk_fx_up (lk_fx_rf _ _) (by decide)) (by decide)) (by decide)) (by decide)) (by decide)) (by decide)) (by decide)) (by decide)) (by decide)) (by decide)) (by decide)) (by decide)), (fun h => by rw [hb] at h; cases h), (fun _ => by rw [hb]; rfl)⟩
            ·
              refine lk_callV (o := 1) (as := [lk_vi (nI (L))]) (S := [lk_vi (nI ((5) * (t) + 4)), lk_vr 1 17]) dX9_readsBoat_131 rfl vX9_figure rfl lX9_89 rfl rfl (Nat.le_of_ble_eq_true rfl) (tX9_figure_ok l X d (lk_up (lk_up (lk_up (lk_up (lk_up (lk_up (lk_up (lk_up (lk_up σ 1 14 0 (nI ((lk_rdn P n 4 a 0).2))) 1 15 0 (-1)) 1 16 ((5) * (t)) ((lk_rdn P n 4 a 0).1)) 1 16 ((5) * (t) + 3) 0) 1 14 0 (nI ((lk_rdn P n 4 a 0).2 + 1))) 1 14 0 (nI (((lk_rdn P n 4 a 0).2 + 1) + 1))) 1 16 ((5) * (t) + 1) (lk_cur P n ((lk_rdn P n 4 a 0).2 + 1) - 48)) 1 14 0 (nI ((((lk_rdn P n 4 a 0).2 + 1) + 1) + 1))) 1 16 ((5) * (t) + 2) (lk_cur P n (((lk_rdn P n 4 a 0).2 + 1) + 1) - 48)) τ (L := (L)) (B := B) (P := P) (n := n) (hn60 := hn60) (htp := htp) (hP := hP) (a := (((lk_rdn P n 4 a 0).2 + 1) + 1) + 1) (ha := rfl) (ha70 := by omega) (hf := rfl) (hr := hr) (hL := by omega) (hg := hg3)) ?_
              refine lk_k3 ?_
              refine lk_cast (pc' := 134) (S' := [lk_vi (lk_cur P n ((((lk_rdn P n 4 a 0).2 + 1) + 1) + 1) - 48), lk_vi (nI ((5) * (t) + 4)), lk_vr 1 17]) rfl rfl rfl ?_
              refine lk_iastN (f := 16) (i := (5) * (t) + 4) (v := (lk_cur P n ((((lk_rdn P n 4 a 0).2 + 1) + 1) + 1) - 48)) dX9_readsBoat_134 rfl (by decide) rfl (by omega) (by decide) ?_
              refine lk_sg (σ' := (lk_mb (lk_up (lk_up (lk_up (lk_up (lk_up (lk_up (lk_up (lk_up (lk_up (lk_up (lk_up σ 1 14 0 (nI ((lk_rdn P n 4 a 0).2))) 1 15 0 (-1)) 1 16 ((5) * (t)) ((lk_rdn P n 4 a 0).1)) 1 16 ((5) * (t) + 3) 0) 1 14 0 (nI ((lk_rdn P n 4 a 0).2 + 1))) 1 14 0 (nI (((lk_rdn P n 4 a 0).2 + 1) + 1))) 1 16 ((5) * (t) + 1) (lk_cur P n ((lk_rdn P n 4 a 0).2 + 1) - 48)) 1 14 0 (nI ((((lk_rdn P n 4 a 0).2 + 1) + 1) + 1))) 1 16 ((5) * (t) + 2) (lk_cur P n (((lk_rdn P n 4 a 0).2 + 1) + 1) - 48)) 1 14 0 (nI (((((lk_rdn P n 4 a 0).2 + 1) + 1) + 1) + 1))) 1 16 ((5) * (t) + 4) (lk_cur P n ((((lk_rdn P n 4 a 0).2 + 1) + 1) + 1) - 48)) B)) (lk_bf (by decide)) ?_
              refine lk_aload_n dX9_readsBoat_135 rfl rfl ?_
              refine lk_dup dX9_readsBoat_136 rfl ?_
              refine lk_getIv (v := (nI (t))) (f := 17) dX9_readsBoat_137 rfl fX9_82 (by decide) (by decide) ((lk_bn (by decide)).trans ht) ?_
              refine lk_iconst (v := 1) dX9_readsBoat_140 (by decide) ?_
              refine lk_iaddN (a := t) (b := 1) dX9_readsBoat_141 ?_
              refine lk_putI (f := 17) dX9_readsBoat_142 rfl fX9_82 (by decide) (by decide) ?_
              refine lk_sg (σ' := (lk_mb (lk_up (lk_up (lk_up (lk_up (lk_up (lk_up (lk_up (lk_up (lk_up (lk_up (lk_up (lk_up σ 1 14 0 (nI ((lk_rdn P n 4 a 0).2))) 1 15 0 (-1)) 1 16 ((5) * (t)) ((lk_rdn P n 4 a 0).1)) 1 16 ((5) * (t) + 3) 0) 1 14 0 (nI ((lk_rdn P n 4 a 0).2 + 1))) 1 14 0 (nI (((lk_rdn P n 4 a 0).2 + 1) + 1))) 1 16 ((5) * (t) + 1) (lk_cur P n ((lk_rdn P n 4 a 0).2 + 1) - 48)) 1 14 0 (nI ((((lk_rdn P n 4 a 0).2 + 1) + 1) + 1))) 1 16 ((5) * (t) + 2) (lk_cur P n (((lk_rdn P n 4 a 0).2 + 1) + 1) - 48)) 1 14 0 (nI (((((lk_rdn P n 4 a 0).2 + 1) + 1) + 1) + 1))) 1 16 ((5) * (t) + 4) (lk_cur P n ((((lk_rdn P n 4 a 0).2 + 1) + 1) + 1) - 48)) 1 17 0 (nI (t + 1))) B)) (lk_bf (by decide)) ?_
              refine lk_vret dX9_readsBoat_145 rfl ?_
              rw [hQ]
              have hb : lk_rdb P n a (nI L) = (true, (lk_rdn P n 4 a 0).2 + 1 + 1 + 1 + 1) := by
                unfold lk_rdb
                simp only [lk_eq_b] at *
                first
                  | contradiction
                  | ((try clear hc2)
                     (try simp only [show (nI 9 : Int32) = 9 from rfl] at *)
                     simp [*])
              refine ⟨rfl, rfl, (lk_up (lk_up (lk_up (lk_up (lk_up (lk_up (lk_up (lk_up (lk_up (lk_up (lk_up (lk_up σ 1 14 0 (nI ((lk_rdn P n 4 a 0).2))) 1 15 0 (-1)) 1 16 ((5) * (t)) ((lk_rdn P n 4 a 0).1)) 1 16 ((5) * (t) + 3) 0) 1 14 0 (nI ((lk_rdn P n 4 a 0).2 + 1))) 1 14 0 (nI (((lk_rdn P n 4 a 0).2 + 1) + 1))) 1 16 ((5) * (t) + 1) (lk_cur P n ((lk_rdn P n 4 a 0).2 + 1) - 48)) 1 14 0 (nI ((((lk_rdn P n 4 a 0).2 + 1) + 1) + 1))) 1 16 ((5) * (t) + 2) (lk_cur P n (((lk_rdn P n 4 a 0).2 + 1) + 1) - 48)) 1 14 0 (nI (((((lk_rdn P n 4 a 0).2 + 1) + 1) + 1) + 1))) 1 16 ((5) * (t) + 4) (lk_cur P n ((((lk_rdn P n 4 a 0).2 + 1) + 1) + 1) - 48)) 1 17 0 (nI (t + 1))), rfl, (lk_fx_up (lk_fx_up (lk_fx_up (lk_fx_up (lk_fx_up (lk_fx_up (lk_fx_up (lk_fx_up (lk_fx_up (lk_fx_up (lk_fx_up (lk_fx_up (lk_fx_rf _ _) (by decide)) (by decide)) (by decide)) (by decide)) (by decide)) (by decide)) (by decide)) (by decide)) (by decide)) (by decide)) (by decide)) (by decide)), fun _ => ⟨by rw [hb]; rfl, rfl, rfl, fun f hf5 => ?_, fun x hx => ?_⟩, (fun h => by rw [hb] at h; cases h)⟩
              · rcases (show f = 0 ∨ f = 1 ∨ f = 2 ∨ f = 3 ∨ f = 4 by omega) with rfl | rfl | rfl | rfl | rfl
                · simp [lk_up, lk_rdw]
                · simp [lk_up, lk_rdw]
                · simp [lk_up, lk_rdw]
                · simp only [lk_up, lk_rdw]
                  simp [hs3]
                · simp [lk_up, lk_rdw]
              · simp only [lk_up]
                simp
                rw [if_neg (by omega), if_neg (by omega), if_neg (by omega), if_neg (by omega), if_neg (by omega)]
      ·
        have hs3 : lk_cur P n (lk_rdn P n 4 a 0).2 = 43 := by first | assumption | exact Decidable.not_not.mp (by assumption)
        refine lk_iconst (v := 1) dX9_readsBoat_72 (by decide) ?_
        refine lk_goto (tgt := 77) dX9_readsBoat_73 (by decide) ?_
        refine lk_iastN (f := 16) (i := (5) * (t) + 3) (v := 1) dX9_readsBoat_77 rfl (by decide) rfl (by omega) (by decide) ?_
        refine lk_sg (σ' := (lk_mb (lk_up (lk_up (lk_up (lk_up σ 1 14 0 (nI ((lk_rdn P n 4 a 0).2))) 1 15 0 (-1)) 1 16 ((5) * (t)) ((lk_rdn P n 4 a 0).1)) 1 16 ((5) * (t) + 3) 1) B)) (lk_bf (by decide)) ?_
        refine lk_aload_n dX9_readsBoat_78 rfl rfl ?_
        refine lk_dup dX9_readsBoat_79 rfl ?_
        refine lk_getIv (v := (nI ((lk_rdn P n 4 a 0).2))) (f := 14) dX9_readsBoat_80 rfl fX9_72 (by decide) (by decide) ((lk_bn (by decide)).trans rfl) ?_
        refine lk_iconst (v := 1) dX9_readsBoat_83 (by decide) ?_
        refine lk_iaddN (a := (lk_rdn P n 4 a 0).2) (b := 1) dX9_readsBoat_84 ?_
        refine lk_putI (f := 14) dX9_readsBoat_85 rfl fX9_72 (by decide) (by decide) ?_
        refine lk_sg (σ' := (lk_mb (lk_up (lk_up (lk_up (lk_up (lk_up σ 1 14 0 (nI ((lk_rdn P n 4 a 0).2))) 1 15 0 (-1)) 1 16 ((5) * (t)) ((lk_rdn P n 4 a 0).1)) 1 16 ((5) * (t) + 3) 1) 1 14 0 (nI ((lk_rdn P n 4 a 0).2 + 1))) B)) (lk_bf (by decide)) ?_
        refine lk_aload_n dX9_readsBoat_88 rfl rfl ?_
        refine lk_getR (f := 16) dX9_readsBoat_89 rfl fX9_27 (by decide) (by decide) ?_
        refine lk_iload_n dX9_readsBoat_92 rfl rfl ?_
        refine lk_iconst (v := 1) dX9_readsBoat_93 (by decide) ?_
        refine lk_iaddN (a := (5) * (t)) (b := 1) dX9_readsBoat_94 ?_
        refine lk_aload_n dX9_readsBoat_95 rfl rfl ?_
        refine lk_bipush (v := 9) dX9_readsBoat_96 (by decide) ?_
        rcases hg1 : lk_fgo P n ((lk_rdn P n 4 a 0).2 + 1) (nI 9) with _ | _
        ·
          refine lk_callV (o := 1) (as := [lk_vi 9]) (S := [lk_vi (nI ((5) * (t) + 1)), lk_vr 1 17]) dX9_readsBoat_98 rfl vX9_figure rfl lX9_89 rfl rfl (Nat.le_of_ble_eq_true rfl) (tX9_figure_no l X d (lk_up (lk_up (lk_up (lk_up (lk_up σ 1 14 0 (nI ((lk_rdn P n 4 a 0).2))) 1 15 0 (-1)) 1 16 ((5) * (t)) ((lk_rdn P n 4 a 0).1)) 1 16 ((5) * (t) + 3) 1) 1 14 0 (nI ((lk_rdn P n 4 a 0).2 + 1))) τ (L := (9)) (B := B) (P := P) (n := n) (hn60 := hn60) (htp := htp) (hP := hP) (a := (lk_rdn P n 4 a 0).2 + 1) (ha := rfl) (ha70 := by omega) (hf := rfl) (hr := hr) (hL := by omega) (hg := hg1)) ?_
          refine lk_k3 ?_
          refine lk_cast (pc' := 101) (S' := [lk_vi 0, lk_vi (nI ((5) * (t) + 1)), lk_vr 1 17]) rfl rfl rfl ?_
          refine lk_iastN (f := 16) (i := (5) * (t) + 1) (v := 0) dX9_readsBoat_101 rfl (by decide) rfl (by omega) (by decide) ?_
          refine lk_sg (σ' := (lk_mb (lk_up (lk_up (lk_up (lk_up (lk_up (lk_up (lk_up σ 1 14 0 (nI ((lk_rdn P n 4 a 0).2))) 1 15 0 (-1)) 1 16 ((5) * (t)) ((lk_rdn P n 4 a 0).1)) 1 16 ((5) * (t) + 3) 1) 1 14 0 (nI ((lk_rdn P n 4 a 0).2 + 1))) 1 15 0 (nI (((lk_rdn P n 4 a 0).2 + 1)))) 1 16 ((5) * (t) + 1) 0) B)) (lk_bf (by decide)) ?_
          refine lk_aload_n dX9_readsBoat_102 rfl rfl ?_
          refine lk_getR (f := 16) dX9_readsBoat_103 rfl fX9_27 (by decide) (by decide) ?_
          refine lk_iload_n dX9_readsBoat_106 rfl rfl ?_
          refine lk_iconst (v := 2) dX9_readsBoat_107 (by decide) ?_
          refine lk_iaddN (a := (5) * (t)) (b := 2) dX9_readsBoat_108 ?_
          refine lk_aload_n dX9_readsBoat_109 rfl rfl ?_
          refine lk_bipush (v := 9) dX9_readsBoat_110 (by decide) ?_
          refine lk_callV (o := 1) (as := [lk_vi 9]) (S := [lk_vi (nI ((5) * (t) + 2)), lk_vr 1 17]) dX9_readsBoat_112 rfl vX9_figure rfl lX9_89 rfl rfl (Nat.le_of_ble_eq_true rfl) (tX9_figure_bad l X d (lk_up (lk_up (lk_up (lk_up (lk_up (lk_up (lk_up σ 1 14 0 (nI ((lk_rdn P n 4 a 0).2))) 1 15 0 (-1)) 1 16 ((5) * (t)) ((lk_rdn P n 4 a 0).1)) 1 16 ((5) * (t) + 3) 1) 1 14 0 (nI ((lk_rdn P n 4 a 0).2 + 1))) 1 15 0 (nI (((lk_rdn P n 4 a 0).2 + 1)))) 1 16 ((5) * (t) + 1) 0) τ (L := (9)) (B := B) (hf := nI_pos' (by omega))) ?_
          refine lk_k3 ?_
          refine lk_cast (pc' := 115) (S' := [lk_vi 0, lk_vi (nI ((5) * (t) + 2)), lk_vr 1 17]) rfl rfl rfl ?_
          refine lk_iastN (f := 16) (i := (5) * (t) + 2) (v := 0) dX9_readsBoat_115 rfl (by decide) rfl (by omega) (by decide) ?_
          refine lk_sg (σ' := (lk_mb (lk_up (lk_up (lk_up (lk_up (lk_up (lk_up (lk_up (lk_up σ 1 14 0 (nI ((lk_rdn P n 4 a 0).2))) 1 15 0 (-1)) 1 16 ((5) * (t)) ((lk_rdn P n 4 a 0).1)) 1 16 ((5) * (t) + 3) 1) 1 14 0 (nI ((lk_rdn P n 4 a 0).2 + 1))) 1 15 0 (nI (((lk_rdn P n 4 a 0).2 + 1)))) 1 16 ((5) * (t) + 1) 0) 1 16 ((5) * (t) + 2) 0) B)) (lk_bf (by decide)) ?_
          refine lk_aload_n dX9_readsBoat_116 rfl rfl ?_
          refine lk_getR (f := 16) dX9_readsBoat_117 rfl fX9_27 (by decide) (by decide) ?_
          refine lk_iload_n dX9_readsBoat_120 rfl rfl ?_
          refine lk_iconst (v := 4) dX9_readsBoat_121 (by decide) ?_
          refine lk_iaddN (a := (5) * (t)) (b := 4) dX9_readsBoat_122 ?_
          refine lk_aload_n dX9_readsBoat_123 rfl rfl ?_
          refine lk_aload_n dX9_readsBoat_124 rfl rfl ?_
          refine lk_getR (f := 0) dX9_readsBoat_125 rfl fX9_9 (by decide) (by decide) ?_
          refine lk_bipush (v := 53) dX9_readsBoat_128 (by decide) ?_
          refine lk_ialdN (f := 0) (i := 53) dX9_readsBoat_130 rfl (by decide) rfl (by omega) (by decide) ?_
          refine lk_eqtop (y := (nI (L))) ((lk_bo (by decide)).trans hml) ?_
          refine lk_callV (o := 1) (as := [lk_vi (nI (L))]) (S := [lk_vi (nI ((5) * (t) + 4)), lk_vr 1 17]) dX9_readsBoat_131 rfl vX9_figure rfl lX9_89 rfl rfl (Nat.le_of_ble_eq_true rfl) (tX9_figure_bad l X d (lk_up (lk_up (lk_up (lk_up (lk_up (lk_up (lk_up (lk_up σ 1 14 0 (nI ((lk_rdn P n 4 a 0).2))) 1 15 0 (-1)) 1 16 ((5) * (t)) ((lk_rdn P n 4 a 0).1)) 1 16 ((5) * (t) + 3) 1) 1 14 0 (nI ((lk_rdn P n 4 a 0).2 + 1))) 1 15 0 (nI (((lk_rdn P n 4 a 0).2 + 1)))) 1 16 ((5) * (t) + 1) 0) 1 16 ((5) * (t) + 2) 0) τ (L := (L)) (B := B) (hf := nI_pos' (by omega))) ?_
          refine lk_k3 ?_
          refine lk_cast (pc' := 134) (S' := [lk_vi 0, lk_vi (nI ((5) * (t) + 4)), lk_vr 1 17]) rfl rfl rfl ?_
          refine lk_iastN (f := 16) (i := (5) * (t) + 4) (v := 0) dX9_readsBoat_134 rfl (by decide) rfl (by omega) (by decide) ?_
          refine lk_sg (σ' := (lk_mb (lk_up (lk_up (lk_up (lk_up (lk_up (lk_up (lk_up (lk_up (lk_up σ 1 14 0 (nI ((lk_rdn P n 4 a 0).2))) 1 15 0 (-1)) 1 16 ((5) * (t)) ((lk_rdn P n 4 a 0).1)) 1 16 ((5) * (t) + 3) 1) 1 14 0 (nI ((lk_rdn P n 4 a 0).2 + 1))) 1 15 0 (nI (((lk_rdn P n 4 a 0).2 + 1)))) 1 16 ((5) * (t) + 1) 0) 1 16 ((5) * (t) + 2) 0) 1 16 ((5) * (t) + 4) 0) B)) (lk_bf (by decide)) ?_
          refine lk_aload_n dX9_readsBoat_135 rfl rfl ?_
          refine lk_dup dX9_readsBoat_136 rfl ?_
          refine lk_getIv (v := (nI (t))) (f := 17) dX9_readsBoat_137 rfl fX9_82 (by decide) (by decide) ((lk_bn (by decide)).trans ht) ?_
          refine lk_iconst (v := 1) dX9_readsBoat_140 (by decide) ?_
          refine lk_iaddN (a := t) (b := 1) dX9_readsBoat_141 ?_
          refine lk_putI (f := 17) dX9_readsBoat_142 rfl fX9_82 (by decide) (by decide) ?_
          refine lk_sg (σ' := (lk_mb (lk_up (lk_up (lk_up (lk_up (lk_up (lk_up (lk_up (lk_up (lk_up (lk_up σ 1 14 0 (nI ((lk_rdn P n 4 a 0).2))) 1 15 0 (-1)) 1 16 ((5) * (t)) ((lk_rdn P n 4 a 0).1)) 1 16 ((5) * (t) + 3) 1) 1 14 0 (nI ((lk_rdn P n 4 a 0).2 + 1))) 1 15 0 (nI (((lk_rdn P n 4 a 0).2 + 1)))) 1 16 ((5) * (t) + 1) 0) 1 16 ((5) * (t) + 2) 0) 1 16 ((5) * (t) + 4) 0) 1 17 0 (nI (t + 1))) B)) (lk_bf (by decide)) ?_
          refine lk_vret dX9_readsBoat_145 rfl ?_
          rw [hQ]
          have hb : lk_rdb P n a (nI L) = (false, ((lk_rdn P n 4 a 0).2 + 1)) := by
            unfold lk_rdb
            simp only [lk_eq_b] at *
            first
              | contradiction
              | ((try clear hc2)
                 (try simp only [show (nI 9 : Int32) = 9 from rfl] at *)
                 simp [*])
          exact ⟨rfl, rfl, (lk_up (lk_up (lk_up (lk_up (lk_up (lk_up (lk_up (lk_up (lk_up (lk_up σ 1 14 0 (nI ((lk_rdn P n 4 a 0).2))) 1 15 0 (-1)) 1 16 ((5) * (t)) ((lk_rdn P n 4 a 0).1)) 1 16 ((5) * (t) + 3) 1) 1 14 0 (nI ((lk_rdn P n 4 a 0).2 + 1))) 1 15 0 (nI (((lk_rdn P n 4 a 0).2 + 1)))) 1 16 ((5) * (t) + 1) 0) 1 16 ((5) * (t) + 2) 0) 1 16 ((5) * (t) + 4) 0) 1 17 0 (nI (t + 1))), rfl, (lk_fx_up (lk_fx_up (lk_fx_up (lk_fx_up (lk_fx_up (lk_fx_up (lk_fx_up (lk_fx_up (lk_fx_up (lk_fx_up (lk_fx_rf _ _) (by decide)) (by decide)) (by decide)) (by decide)) (by decide)) (by decide)) (by decide)) (by decide)) (by decide)) (by decide)), (fun h => by rw [hb] at h; cases h), (fun _ => by rw [hb]; rfl)⟩
        ·
          refine lk_callV (o := 1) (as := [lk_vi 9]) (S := [lk_vi (nI ((5) * (t) + 1)), lk_vr 1 17]) dX9_readsBoat_98 rfl vX9_figure rfl lX9_89 rfl rfl (Nat.le_of_ble_eq_true rfl) (tX9_figure_ok l X d (lk_up (lk_up (lk_up (lk_up (lk_up σ 1 14 0 (nI ((lk_rdn P n 4 a 0).2))) 1 15 0 (-1)) 1 16 ((5) * (t)) ((lk_rdn P n 4 a 0).1)) 1 16 ((5) * (t) + 3) 1) 1 14 0 (nI ((lk_rdn P n 4 a 0).2 + 1))) τ (L := (9)) (B := B) (P := P) (n := n) (hn60 := hn60) (htp := htp) (hP := hP) (a := (lk_rdn P n 4 a 0).2 + 1) (ha := rfl) (ha70 := by omega) (hf := rfl) (hr := hr) (hL := by omega) (hg := hg1)) ?_
          refine lk_k3 ?_
          refine lk_cast (pc' := 101) (S' := [lk_vi (lk_cur P n ((lk_rdn P n 4 a 0).2 + 1) - 48), lk_vi (nI ((5) * (t) + 1)), lk_vr 1 17]) rfl rfl rfl ?_
          refine lk_iastN (f := 16) (i := (5) * (t) + 1) (v := (lk_cur P n ((lk_rdn P n 4 a 0).2 + 1) - 48)) dX9_readsBoat_101 rfl (by decide) rfl (by omega) (by decide) ?_
          refine lk_sg (σ' := (lk_mb (lk_up (lk_up (lk_up (lk_up (lk_up (lk_up (lk_up σ 1 14 0 (nI ((lk_rdn P n 4 a 0).2))) 1 15 0 (-1)) 1 16 ((5) * (t)) ((lk_rdn P n 4 a 0).1)) 1 16 ((5) * (t) + 3) 1) 1 14 0 (nI ((lk_rdn P n 4 a 0).2 + 1))) 1 14 0 (nI (((lk_rdn P n 4 a 0).2 + 1) + 1))) 1 16 ((5) * (t) + 1) (lk_cur P n ((lk_rdn P n 4 a 0).2 + 1) - 48)) B)) (lk_bf (by decide)) ?_
          refine lk_aload_n dX9_readsBoat_102 rfl rfl ?_
          refine lk_getR (f := 16) dX9_readsBoat_103 rfl fX9_27 (by decide) (by decide) ?_
          refine lk_iload_n dX9_readsBoat_106 rfl rfl ?_
          refine lk_iconst (v := 2) dX9_readsBoat_107 (by decide) ?_
          refine lk_iaddN (a := (5) * (t)) (b := 2) dX9_readsBoat_108 ?_
          refine lk_aload_n dX9_readsBoat_109 rfl rfl ?_
          refine lk_bipush (v := 9) dX9_readsBoat_110 (by decide) ?_
          rcases hg2 : lk_fgo P n (((lk_rdn P n 4 a 0).2 + 1) + 1) (nI 9) with _ | _
          ·
            refine lk_callV (o := 1) (as := [lk_vi 9]) (S := [lk_vi (nI ((5) * (t) + 2)), lk_vr 1 17]) dX9_readsBoat_112 rfl vX9_figure rfl lX9_89 rfl rfl (Nat.le_of_ble_eq_true rfl) (tX9_figure_no l X d (lk_up (lk_up (lk_up (lk_up (lk_up (lk_up (lk_up σ 1 14 0 (nI ((lk_rdn P n 4 a 0).2))) 1 15 0 (-1)) 1 16 ((5) * (t)) ((lk_rdn P n 4 a 0).1)) 1 16 ((5) * (t) + 3) 1) 1 14 0 (nI ((lk_rdn P n 4 a 0).2 + 1))) 1 14 0 (nI (((lk_rdn P n 4 a 0).2 + 1) + 1))) 1 16 ((5) * (t) + 1) (lk_cur P n ((lk_rdn P n 4 a 0).2 + 1) - 48)) τ (L := (9)) (B := B) (P := P) (n := n) (hn60 := hn60) (htp := htp) (hP := hP) (a := ((lk_rdn P n 4 a 0).2 + 1) + 1) (ha := rfl) (ha70 := by omega) (hf := rfl) (hr := hr) (hL := by omega) (hg := hg2)) ?_
            refine lk_k3 ?_
            refine lk_cast (pc' := 115) (S' := [lk_vi 0, lk_vi (nI ((5) * (t) + 2)), lk_vr 1 17]) rfl rfl rfl ?_
            refine lk_iastN (f := 16) (i := (5) * (t) + 2) (v := 0) dX9_readsBoat_115 rfl (by decide) rfl (by omega) (by decide) ?_
            refine lk_sg (σ' := (lk_mb (lk_up (lk_up (lk_up (lk_up (lk_up (lk_up (lk_up (lk_up (lk_up σ 1 14 0 (nI ((lk_rdn P n 4 a 0).2))) 1 15 0 (-1)) 1 16 ((5) * (t)) ((lk_rdn P n 4 a 0).1)) 1 16 ((5) * (t) + 3) 1) 1 14 0 (nI ((lk_rdn P n 4 a 0).2 + 1))) 1 14 0 (nI (((lk_rdn P n 4 a 0).2 + 1) + 1))) 1 16 ((5) * (t) + 1) (lk_cur P n ((lk_rdn P n 4 a 0).2 + 1) - 48)) 1 15 0 (nI ((((lk_rdn P n 4 a 0).2 + 1) + 1)))) 1 16 ((5) * (t) + 2) 0) B)) (lk_bf (by decide)) ?_
            refine lk_aload_n dX9_readsBoat_116 rfl rfl ?_
            refine lk_getR (f := 16) dX9_readsBoat_117 rfl fX9_27 (by decide) (by decide) ?_
            refine lk_iload_n dX9_readsBoat_120 rfl rfl ?_
            refine lk_iconst (v := 4) dX9_readsBoat_121 (by decide) ?_
            refine lk_iaddN (a := (5) * (t)) (b := 4) dX9_readsBoat_122 ?_
            refine lk_aload_n dX9_readsBoat_123 rfl rfl ?_
            refine lk_aload_n dX9_readsBoat_124 rfl rfl ?_
            refine lk_getR (f := 0) dX9_readsBoat_125 rfl fX9_9 (by decide) (by decide) ?_
            refine lk_bipush (v := 53) dX9_readsBoat_128 (by decide) ?_
            refine lk_ialdN (f := 0) (i := 53) dX9_readsBoat_130 rfl (by decide) rfl (by omega) (by decide) ?_
            refine lk_eqtop (y := (nI (L))) ((lk_bo (by decide)).trans hml) ?_
            refine lk_callV (o := 1) (as := [lk_vi (nI (L))]) (S := [lk_vi (nI ((5) * (t) + 4)), lk_vr 1 17]) dX9_readsBoat_131 rfl vX9_figure rfl lX9_89 rfl rfl (Nat.le_of_ble_eq_true rfl) (tX9_figure_bad l X d (lk_up (lk_up (lk_up (lk_up (lk_up (lk_up (lk_up (lk_up (lk_up σ 1 14 0 (nI ((lk_rdn P n 4 a 0).2))) 1 15 0 (-1)) 1 16 ((5) * (t)) ((lk_rdn P n 4 a 0).1)) 1 16 ((5) * (t) + 3) 1) 1 14 0 (nI ((lk_rdn P n 4 a 0).2 + 1))) 1 14 0 (nI (((lk_rdn P n 4 a 0).2 + 1) + 1))) 1 16 ((5) * (t) + 1) (lk_cur P n ((lk_rdn P n 4 a 0).2 + 1) - 48)) 1 15 0 (nI ((((lk_rdn P n 4 a 0).2 + 1) + 1)))) 1 16 ((5) * (t) + 2) 0) τ (L := (L)) (B := B) (hf := nI_pos' (by omega))) ?_
            refine lk_k3 ?_
            refine lk_cast (pc' := 134) (S' := [lk_vi 0, lk_vi (nI ((5) * (t) + 4)), lk_vr 1 17]) rfl rfl rfl ?_
            refine lk_iastN (f := 16) (i := (5) * (t) + 4) (v := 0) dX9_readsBoat_134 rfl (by decide) rfl (by omega) (by decide) ?_
            refine lk_sg (σ' := (lk_mb (lk_up (lk_up (lk_up (lk_up (lk_up (lk_up (lk_up (lk_up (lk_up (lk_up σ 1 14 0 (nI ((lk_rdn P n 4 a 0).2))) 1 15 0 (-1)) 1 16 ((5) * (t)) ((lk_rdn P n 4 a 0).1)) 1 16 ((5) * (t) + 3) 1) 1 14 0 (nI ((lk_rdn P n 4 a 0).2 + 1))) 1 14 0 (nI (((lk_rdn P n 4 a 0).2 + 1) + 1))) 1 16 ((5) * (t) + 1) (lk_cur P n ((lk_rdn P n 4 a 0).2 + 1) - 48)) 1 15 0 (nI ((((lk_rdn P n 4 a 0).2 + 1) + 1)))) 1 16 ((5) * (t) + 2) 0) 1 16 ((5) * (t) + 4) 0) B)) (lk_bf (by decide)) ?_
            refine lk_aload_n dX9_readsBoat_135 rfl rfl ?_
            refine lk_dup dX9_readsBoat_136 rfl ?_
            refine lk_getIv (v := (nI (t))) (f := 17) dX9_readsBoat_137 rfl fX9_82 (by decide) (by decide) ((lk_bn (by decide)).trans ht) ?_
            refine lk_iconst (v := 1) dX9_readsBoat_140 (by decide) ?_
            refine lk_iaddN (a := t) (b := 1) dX9_readsBoat_141 ?_
            refine lk_putI (f := 17) dX9_readsBoat_142 rfl fX9_82 (by decide) (by decide) ?_
            refine lk_sg (σ' := (lk_mb (lk_up (lk_up (lk_up (lk_up (lk_up (lk_up (lk_up (lk_up (lk_up (lk_up (lk_up σ 1 14 0 (nI ((lk_rdn P n 4 a 0).2))) 1 15 0 (-1)) 1 16 ((5) * (t)) ((lk_rdn P n 4 a 0).1)) 1 16 ((5) * (t) + 3) 1) 1 14 0 (nI ((lk_rdn P n 4 a 0).2 + 1))) 1 14 0 (nI (((lk_rdn P n 4 a 0).2 + 1) + 1))) 1 16 ((5) * (t) + 1) (lk_cur P n ((lk_rdn P n 4 a 0).2 + 1) - 48)) 1 15 0 (nI ((((lk_rdn P n 4 a 0).2 + 1) + 1)))) 1 16 ((5) * (t) + 2) 0) 1 16 ((5) * (t) + 4) 0) 1 17 0 (nI (t + 1))) B)) (lk_bf (by decide)) ?_
            refine lk_vret dX9_readsBoat_145 rfl ?_
            rw [hQ]
            have hb : lk_rdb P n a (nI L) = (false, (((lk_rdn P n 4 a 0).2 + 1) + 1)) := by
              unfold lk_rdb
              simp only [lk_eq_b] at *
              first
                | contradiction
                | ((try clear hc2)
                   (try simp only [show (nI 9 : Int32) = 9 from rfl] at *)
                   simp [*])
            exact ⟨rfl, rfl, (lk_up (lk_up (lk_up (lk_up (lk_up (lk_up (lk_up (lk_up (lk_up (lk_up (lk_up σ 1 14 0 (nI ((lk_rdn P n 4 a 0).2))) 1 15 0 (-1)) 1 16 ((5) * (t)) ((lk_rdn P n 4 a 0).1)) 1 16 ((5) * (t) + 3) 1) 1 14 0 (nI ((lk_rdn P n 4 a 0).2 + 1))) 1 14 0 (nI (((lk_rdn P n 4 a 0).2 + 1) + 1))) 1 16 ((5) * (t) + 1) (lk_cur P n ((lk_rdn P n 4 a 0).2 + 1) - 48)) 1 15 0 (nI ((((lk_rdn P n 4 a 0).2 + 1) + 1)))) 1 16 ((5) * (t) + 2) 0) 1 16 ((5) * (t) + 4) 0) 1 17 0 (nI (t + 1))), rfl, (lk_fx_up (lk_fx_up (lk_fx_up (lk_fx_up (lk_fx_up (lk_fx_up (lk_fx_up (lk_fx_up (lk_fx_up (lk_fx_up (lk_fx_up (lk_fx_rf _ _) (by decide)) (by decide)) (by decide)) (by decide)) (by decide)) (by decide)) (by decide)) (by decide)) (by decide)) (by decide)) (by decide)), (fun h => by rw [hb] at h; cases h), (fun _ => by rw [hb]; rfl)⟩
          ·
            refine lk_callV (o := 1) (as := [lk_vi 9]) (S := [lk_vi (nI ((5) * (t) + 2)), lk_vr 1 17]) dX9_readsBoat_112 rfl vX9_figure rfl lX9_89 rfl rfl (Nat.le_of_ble_eq_true rfl) (tX9_figure_ok l X d (lk_up (lk_up (lk_up (lk_up (lk_up (lk_up (lk_up σ 1 14 0 (nI ((lk_rdn P n 4 a 0).2))) 1 15 0 (-1)) 1 16 ((5) * (t)) ((lk_rdn P n 4 a 0).1)) 1 16 ((5) * (t) + 3) 1) 1 14 0 (nI ((lk_rdn P n 4 a 0).2 + 1))) 1 14 0 (nI (((lk_rdn P n 4 a 0).2 + 1) + 1))) 1 16 ((5) * (t) + 1) (lk_cur P n ((lk_rdn P n 4 a 0).2 + 1) - 48)) τ (L := (9)) (B := B) (P := P) (n := n) (hn60 := hn60) (htp := htp) (hP := hP) (a := ((lk_rdn P n 4 a 0).2 + 1) + 1) (ha := rfl) (ha70 := by omega) (hf := rfl) (hr := hr) (hL := by omega) (hg := hg2)) ?_
            refine lk_k3 ?_
            refine lk_cast (pc' := 115) (S' := [lk_vi (lk_cur P n (((lk_rdn P n 4 a 0).2 + 1) + 1) - 48), lk_vi (nI ((5) * (t) + 2)), lk_vr 1 17]) rfl rfl rfl ?_
            refine lk_iastN (f := 16) (i := (5) * (t) + 2) (v := (lk_cur P n (((lk_rdn P n 4 a 0).2 + 1) + 1) - 48)) dX9_readsBoat_115 rfl (by decide) rfl (by omega) (by decide) ?_
            refine lk_sg (σ' := (lk_mb (lk_up (lk_up (lk_up (lk_up (lk_up (lk_up (lk_up (lk_up (lk_up σ 1 14 0 (nI ((lk_rdn P n 4 a 0).2))) 1 15 0 (-1)) 1 16 ((5) * (t)) ((lk_rdn P n 4 a 0).1)) 1 16 ((5) * (t) + 3) 1) 1 14 0 (nI ((lk_rdn P n 4 a 0).2 + 1))) 1 14 0 (nI (((lk_rdn P n 4 a 0).2 + 1) + 1))) 1 16 ((5) * (t) + 1) (lk_cur P n ((lk_rdn P n 4 a 0).2 + 1) - 48)) 1 14 0 (nI ((((lk_rdn P n 4 a 0).2 + 1) + 1) + 1))) 1 16 ((5) * (t) + 2) (lk_cur P n (((lk_rdn P n 4 a 0).2 + 1) + 1) - 48)) B)) (lk_bf (by decide)) ?_
            refine lk_aload_n dX9_readsBoat_116 rfl rfl ?_
            refine lk_getR (f := 16) dX9_readsBoat_117 rfl fX9_27 (by decide) (by decide) ?_
            refine lk_iload_n dX9_readsBoat_120 rfl rfl ?_
            refine lk_iconst (v := 4) dX9_readsBoat_121 (by decide) ?_
            refine lk_iaddN (a := (5) * (t)) (b := 4) dX9_readsBoat_122 ?_
            refine lk_aload_n dX9_readsBoat_123 rfl rfl ?_
            refine lk_aload_n dX9_readsBoat_124 rfl rfl ?_
            refine lk_getR (f := 0) dX9_readsBoat_125 rfl fX9_9 (by decide) (by decide) ?_
            refine lk_bipush (v := 53) dX9_readsBoat_128 (by decide) ?_
            refine lk_ialdN (f := 0) (i := 53) dX9_readsBoat_130 rfl (by decide) rfl (by omega) (by decide) ?_
            refine lk_eqtop (y := (nI (L))) ((lk_bo (by decide)).trans hml) ?_
            rcases hg3 : lk_fgo P n ((((lk_rdn P n 4 a 0).2 + 1) + 1) + 1) (nI L) with _ | _
            ·
              refine lk_callV (o := 1) (as := [lk_vi (nI (L))]) (S := [lk_vi (nI ((5) * (t) + 4)), lk_vr 1 17]) dX9_readsBoat_131 rfl vX9_figure rfl lX9_89 rfl rfl (Nat.le_of_ble_eq_true rfl) (tX9_figure_no l X d (lk_up (lk_up (lk_up (lk_up (lk_up (lk_up (lk_up (lk_up (lk_up σ 1 14 0 (nI ((lk_rdn P n 4 a 0).2))) 1 15 0 (-1)) 1 16 ((5) * (t)) ((lk_rdn P n 4 a 0).1)) 1 16 ((5) * (t) + 3) 1) 1 14 0 (nI ((lk_rdn P n 4 a 0).2 + 1))) 1 14 0 (nI (((lk_rdn P n 4 a 0).2 + 1) + 1))) 1 16 ((5) * (t) + 1) (lk_cur P n ((lk_rdn P n 4 a 0).2 + 1) - 48)) 1 14 0 (nI ((((lk_rdn P n 4 a 0).2 + 1) + 1) + 1))) 1 16 ((5) * (t) + 2) (lk_cur P n (((lk_rdn P n 4 a 0).2 + 1) + 1) - 48)) τ (L := (L)) (B := B) (P := P) (n := n) (hn60 := hn60) (htp := htp) (hP := hP) (a := (((lk_rdn P n 4 a 0).2 + 1) + 1) + 1) (ha := rfl) (ha70 := by omega) (hf := rfl) (hr := hr) (hL := by omega) (hg := hg3)) ?_
              refine lk_k3 ?_
              refine lk_cast (pc' := 134) (S' := [lk_vi 0, lk_vi (nI ((5) * (t) + 4)), lk_vr 1 17]) rfl rfl rfl ?_
              refine lk_iastN (f := 16) (i := (5) * (t) + 4) (v := 0) dX9_readsBoat_134 rfl (by decide) rfl (by omega) (by decide) ?_
              refine lk_sg (σ' := (lk_mb (lk_up (lk_up (lk_up (lk_up (lk_up (lk_up (lk_up (lk_up (lk_up (lk_up (lk_up σ 1 14 0 (nI ((lk_rdn P n 4 a 0).2))) 1 15 0 (-1)) 1 16 ((5) * (t)) ((lk_rdn P n 4 a 0).1)) 1 16 ((5) * (t) + 3) 1) 1 14 0 (nI ((lk_rdn P n 4 a 0).2 + 1))) 1 14 0 (nI (((lk_rdn P n 4 a 0).2 + 1) + 1))) 1 16 ((5) * (t) + 1) (lk_cur P n ((lk_rdn P n 4 a 0).2 + 1) - 48)) 1 14 0 (nI ((((lk_rdn P n 4 a 0).2 + 1) + 1) + 1))) 1 16 ((5) * (t) + 2) (lk_cur P n (((lk_rdn P n 4 a 0).2 + 1) + 1) - 48)) 1 15 0 (nI (((((lk_rdn P n 4 a 0).2 + 1) + 1) + 1)))) 1 16 ((5) * (t) + 4) 0) B)) (lk_bf (by decide)) ?_
              refine lk_aload_n dX9_readsBoat_135 rfl rfl ?_
              refine lk_dup dX9_readsBoat_136 rfl ?_
              refine lk_getIv (v := (nI (t))) (f := 17) dX9_readsBoat_137 rfl fX9_82 (by decide) (by decide) ((lk_bn (by decide)).trans ht) ?_
              refine lk_iconst (v := 1) dX9_readsBoat_140 (by decide) ?_
              refine lk_iaddN (a := t) (b := 1) dX9_readsBoat_141 ?_
              refine lk_putI (f := 17) dX9_readsBoat_142 rfl fX9_82 (by decide) (by decide) ?_
              refine lk_sg (σ' := (lk_mb (lk_up (lk_up (lk_up (lk_up (lk_up (lk_up (lk_up (lk_up (lk_up (lk_up (lk_up (lk_up σ 1 14 0 (nI ((lk_rdn P n 4 a 0).2))) 1 15 0 (-1)) 1 16 ((5) * (t)) ((lk_rdn P n 4 a 0).1)) 1 16 ((5) * (t) + 3) 1) 1 14 0 (nI ((lk_rdn P n 4 a 0).2 + 1))) 1 14 0 (nI (((lk_rdn P n 4 a 0).2 + 1) + 1))) 1 16 ((5) * (t) + 1) (lk_cur P n ((lk_rdn P n 4 a 0).2 + 1) - 48)) 1 14 0 (nI ((((lk_rdn P n 4 a 0).2 + 1) + 1) + 1))) 1 16 ((5) * (t) + 2) (lk_cur P n (((lk_rdn P n 4 a 0).2 + 1) + 1) - 48)) 1 15 0 (nI (((((lk_rdn P n 4 a 0).2 + 1) + 1) + 1)))) 1 16 ((5) * (t) + 4) 0) 1 17 0 (nI (t + 1))) B)) (lk_bf (by decide)) ?_
              refine lk_vret dX9_readsBoat_145 rfl ?_
              rw [hQ]
              have hb : lk_rdb P n a (nI L) = (false, ((((lk_rdn P n 4 a 0).2 + 1) + 1) + 1)) := by
                unfold lk_rdb
                simp only [lk_eq_b] at *
                first
                  | contradiction
                  | ((try clear hc2)
                     (try simp only [show (nI 9 : Int32) = 9 from rfl] at *)
                     simp [*])
              exact ⟨rfl, rfl, (lk_up (lk_up (lk_up (lk_up (lk_up (lk_up (lk_up (lk_up (lk_up (lk_up (lk_up (lk_up σ 1 14 0 (nI ((lk_rdn P n 4 a 0).2))) 1 15 0 (-1)) 1 16 ((5) * (t)) ((lk_rdn P n 4 a 0).1)) 1 16 ((5) * (t) + 3) 1) 1 14 0 (nI ((lk_rdn P n 4 a 0).2 + 1))) 1 14 0 (nI (((lk_rdn P n 4 a 0).2 + 1) + 1))) 1 16 ((5) * (t) + 1) (lk_cur P n ((lk_rdn P n 4 a 0).2 + 1) - 48)) 1 14 0 (nI ((((lk_rdn P n 4 a 0).2 + 1) + 1) + 1))) 1 16 ((5) * (t) + 2) (lk_cur P n (((lk_rdn P n 4 a 0).2 + 1) + 1) - 48)) 1 15 0 (nI (((((lk_rdn P n 4 a 0).2 + 1) + 1) + 1)))) 1 16 ((5) * (t) + 4) 0) 1 17 0 (nI (t + 1))), rfl, (lk_fx_up (lk_fx_up (lk_fx_up (lk_fx_up (lk_fx_up (lk_fx_up (lk_fx_up (lk_fx_up (lk_fx_up (lk_fx_up (lk_fx_up (lk_fx_up (lk_fx_rf _ _) (by decide)) (by decide)) (by decide)) (by decide)) (by decide)) (by decide)) (by decide)) (by decide)) (by decide)) (by decide)) (by decide)) (by decide)), (fun h => by rw [hb] at h; cases h), (fun _ => by rw [hb]; rfl)⟩
            ·
              refine lk_callV (o := 1) (as := [lk_vi (nI (L))]) (S := [lk_vi (nI ((5) * (t) + 4)), lk_vr 1 17]) dX9_readsBoat_131 rfl vX9_figure rfl lX9_89 rfl rfl (Nat.le_of_ble_eq_true rfl) (tX9_figure_ok l X d (lk_up (lk_up (lk_up (lk_up (lk_up (lk_up (lk_up (lk_up (lk_up σ 1 14 0 (nI ((lk_rdn P n 4 a 0).2))) 1 15 0 (-1)) 1 16 ((5) * (t)) ((lk_rdn P n 4 a 0).1)) 1 16 ((5) * (t) + 3) 1) 1 14 0 (nI ((lk_rdn P n 4 a 0).2 + 1))) 1 14 0 (nI (((lk_rdn P n 4 a 0).2 + 1) + 1))) 1 16 ((5) * (t) + 1) (lk_cur P n ((lk_rdn P n 4 a 0).2 + 1) - 48)) 1 14 0 (nI ((((lk_rdn P n 4 a 0).2 + 1) + 1) + 1))) 1 16 ((5) * (t) + 2) (lk_cur P n (((lk_rdn P n 4 a 0).2 + 1) + 1) - 48)) τ (L := (L)) (B := B) (P := P) (n := n) (hn60 := hn60) (htp := htp) (hP := hP) (a := (((lk_rdn P n 4 a 0).2 + 1) + 1) + 1) (ha := rfl) (ha70 := by omega) (hf := rfl) (hr := hr) (hL := by omega) (hg := hg3)) ?_
              refine lk_k3 ?_
              refine lk_cast (pc' := 134) (S' := [lk_vi (lk_cur P n ((((lk_rdn P n 4 a 0).2 + 1) + 1) + 1) - 48), lk_vi (nI ((5) * (t) + 4)), lk_vr 1 17]) rfl rfl rfl ?_
              refine lk_iastN (f := 16) (i := (5) * (t) + 4) (v := (lk_cur P n ((((lk_rdn P n 4 a 0).2 + 1) + 1) + 1) - 48)) dX9_readsBoat_134 rfl (by decide) rfl (by omega) (by decide) ?_
              refine lk_sg (σ' := (lk_mb (lk_up (lk_up (lk_up (lk_up (lk_up (lk_up (lk_up (lk_up (lk_up (lk_up (lk_up σ 1 14 0 (nI ((lk_rdn P n 4 a 0).2))) 1 15 0 (-1)) 1 16 ((5) * (t)) ((lk_rdn P n 4 a 0).1)) 1 16 ((5) * (t) + 3) 1) 1 14 0 (nI ((lk_rdn P n 4 a 0).2 + 1))) 1 14 0 (nI (((lk_rdn P n 4 a 0).2 + 1) + 1))) 1 16 ((5) * (t) + 1) (lk_cur P n ((lk_rdn P n 4 a 0).2 + 1) - 48)) 1 14 0 (nI ((((lk_rdn P n 4 a 0).2 + 1) + 1) + 1))) 1 16 ((5) * (t) + 2) (lk_cur P n (((lk_rdn P n 4 a 0).2 + 1) + 1) - 48)) 1 14 0 (nI (((((lk_rdn P n 4 a 0).2 + 1) + 1) + 1) + 1))) 1 16 ((5) * (t) + 4) (lk_cur P n ((((lk_rdn P n 4 a 0).2 + 1) + 1) + 1) - 48)) B)) (lk_bf (by decide)) ?_
              refine lk_aload_n dX9_readsBoat_135 rfl rfl ?_
              refine lk_dup dX9_readsBoat_136 rfl ?_
              refine lk_getIv (v := (nI (t))) (f := 17) dX9_readsBoat_137 rfl fX9_82 (by decide) (by decide) ((lk_bn (by decide)).trans ht) ?_
              refine lk_iconst (v := 1) dX9_readsBoat_140 (by decide) ?_
              refine lk_iaddN (a := t) (b := 1) dX9_readsBoat_141 ?_
              refine lk_putI (f := 17) dX9_readsBoat_142 rfl fX9_82 (by decide) (by decide) ?_
              refine lk_sg (σ' := (lk_mb (lk_up (lk_up (lk_up (lk_up (lk_up (lk_up (lk_up (lk_up (lk_up (lk_up (lk_up (lk_up σ 1 14 0 (nI ((lk_rdn P n 4 a 0).2))) 1 15 0 (-1)) 1 16 ((5) * (t)) ((lk_rdn P n 4 a 0).1)) 1 16 ((5) * (t) + 3) 1) 1 14 0 (nI ((lk_rdn P n 4 a 0).2 + 1))) 1 14 0 (nI (((lk_rdn P n 4 a 0).2 + 1) + 1))) 1 16 ((5) * (t) + 1) (lk_cur P n ((lk_rdn P n 4 a 0).2 + 1) - 48)) 1 14 0 (nI ((((lk_rdn P n 4 a 0).2 + 1) + 1) + 1))) 1 16 ((5) * (t) + 2) (lk_cur P n (((lk_rdn P n 4 a 0).2 + 1) + 1) - 48)) 1 14 0 (nI (((((lk_rdn P n 4 a 0).2 + 1) + 1) + 1) + 1))) 1 16 ((5) * (t) + 4) (lk_cur P n ((((lk_rdn P n 4 a 0).2 + 1) + 1) + 1) - 48)) 1 17 0 (nI (t + 1))) B)) (lk_bf (by decide)) ?_
              refine lk_vret dX9_readsBoat_145 rfl ?_
              rw [hQ]
              have hb : lk_rdb P n a (nI L) = (true, (lk_rdn P n 4 a 0).2 + 1 + 1 + 1 + 1) := by
                unfold lk_rdb
                simp only [lk_eq_b] at *
                first
                  | contradiction
                  | ((try clear hc2)
                     (try simp only [show (nI 9 : Int32) = 9 from rfl] at *)
                     simp [*])
              refine ⟨rfl, rfl, (lk_up (lk_up (lk_up (lk_up (lk_up (lk_up (lk_up (lk_up (lk_up (lk_up (lk_up (lk_up σ 1 14 0 (nI ((lk_rdn P n 4 a 0).2))) 1 15 0 (-1)) 1 16 ((5) * (t)) ((lk_rdn P n 4 a 0).1)) 1 16 ((5) * (t) + 3) 1) 1 14 0 (nI ((lk_rdn P n 4 a 0).2 + 1))) 1 14 0 (nI (((lk_rdn P n 4 a 0).2 + 1) + 1))) 1 16 ((5) * (t) + 1) (lk_cur P n ((lk_rdn P n 4 a 0).2 + 1) - 48)) 1 14 0 (nI ((((lk_rdn P n 4 a 0).2 + 1) + 1) + 1))) 1 16 ((5) * (t) + 2) (lk_cur P n (((lk_rdn P n 4 a 0).2 + 1) + 1) - 48)) 1 14 0 (nI (((((lk_rdn P n 4 a 0).2 + 1) + 1) + 1) + 1))) 1 16 ((5) * (t) + 4) (lk_cur P n ((((lk_rdn P n 4 a 0).2 + 1) + 1) + 1) - 48)) 1 17 0 (nI (t + 1))), rfl, (lk_fx_up (lk_fx_up (lk_fx_up (lk_fx_up (lk_fx_up (lk_fx_up (lk_fx_up (lk_fx_up (lk_fx_up (lk_fx_up (lk_fx_up (lk_fx_up (lk_fx_rf _ _) (by decide)) (by decide)) (by decide)) (by decide)) (by decide)) (by decide)) (by decide)) (by decide)) (by decide)) (by decide)) (by decide)) (by decide)), fun _ => ⟨by rw [hb]; rfl, rfl, rfl, fun f hf5 => ?_, fun x hx => ?_⟩, (fun h => by rw [hb] at h; cases h)⟩
              · rcases (show f = 0 ∨ f = 1 ∨ f = 2 ∨ f = 3 ∨ f = 4 by omega) with rfl | rfl | rfl | rfl | rfl
                · simp [lk_up, lk_rdw]
                · simp [lk_up, lk_rdw]
                · simp [lk_up, lk_rdw]
                · simp only [lk_up, lk_rdw]
                  simp [hs3]
                · simp [lk_up, lk_rdw]
              · simp only [lk_up]
                simp
                rw [if_neg (by omega), if_neg (by omega), if_neg (by omega), if_neg (by omega), if_neg (by omega)]
    ·
      refine lk_aload_n dX9_readsBoat_28 rfl rfl ?_
      refine lk_bipush (v := 45) dX9_readsBoat_29 (by decide) ?_
      refine lk_bipush (v := 45) dX9_readsBoat_31 (by decide) ?_
      refine lk_callV (o := 1) (as := [lk_vi 45, lk_vi 45]) (S := []) dX9_readsBoat_33 rfl vX9_isFrom rfl lX9_75 rfl rfl (Nat.le_of_ble_eq_true rfl) (tX9_isFrom_ok l X (d + 1) (lk_up (lk_up (lk_up σ 1 14 0 (nI ((lk_rdn P n 4 a 0).2))) 1 15 0 (-1)) 1 16 ((5) * (t)) ((lk_rdn P n 4 a 0).1)) τ (lo := (45 : Int32)) (hi := (45 : Int32)) (B := B) (P := P) (n := n) (hn60 := hn60) (htp := htp) (hP := hP) (a := (lk_rdn P n 4 a 0).2) (ha := rfl) (ha70 := by omega) (hf := rfl) (hlo := by decide)) ?_
      refine lk_k3 ?_
      refine lk_cast (pc' := 36) (S' := [lk_vi (if (45 : Int32) ≤ lk_cur P n ((lk_rdn P n 4 a 0).2) ∧ lk_cur P n ((lk_rdn P n 4 a 0).2) ≤ (45 : Int32) then 1 else 0)]) rfl rfl rfl ?_
      refine lk_if_neB (tgt := 43) dX9_readsBoat_36 (by decide) (fun hh7 => ?_) (fun hh7 => ?_)
      ·
        refine lk_aload_n dX9_readsBoat_43 rfl rfl ?_
        refine lk_getIv (v := ((-1))) (f := 15) dX9_readsBoat_44 rfl fX9_69 (by decide) (by decide) ((lk_bn (by decide)).trans rfl) ?_
        refine lk_if_lt (tgt := 51) dX9_readsBoat_47 (by decide) (fun hh8 => ?_) (fun hh8 => absurd hh8 (fun q => q (by decide)))
        have hc2 : (lk_rdn P n 4 a 0).2 < n ∧ lk_cur P n (lk_rdn P n 4 a 0).2 = P 0 (lk_rdn P n 4 a 0).2 := by
          apply lk_curm_lt
          first
            | exact Int32.le_trans (by decide) (show 43 ≤ lk_cur P n ((lk_rdn P n 4 a 0).2) ∧ lk_cur P n ((lk_rdn P n 4 a 0).2) ≤ 43 by assumption).1
            | exact Int32.le_trans (by decide) (show 45 ≤ lk_cur P n ((lk_rdn P n 4 a 0).2) ∧ lk_cur P n ((lk_rdn P n 4 a 0).2) ≤ 45 by assumption).1
        refine lk_aload_n dX9_readsBoat_51 rfl rfl ?_
        refine lk_getR (f := 16) dX9_readsBoat_52 rfl fX9_27 (by decide) (by decide) ?_
        refine lk_iload_n dX9_readsBoat_55 rfl rfl ?_
        refine lk_iconst (v := 3) dX9_readsBoat_56 (by decide) ?_
        refine lk_iaddN (a := (5) * (t)) (b := 3) dX9_readsBoat_57 ?_
        refine lk_aload_n dX9_readsBoat_58 rfl rfl ?_
        refine lk_getR (f := 13) dX9_readsBoat_59 rfl fX9_24 (by decide) (by decide) ?_
        refine lk_aload_n dX9_readsBoat_62 rfl rfl ?_
        refine lk_getIv (v := (nI ((lk_rdn P n 4 a 0).2))) (f := 14) dX9_readsBoat_63 rfl fX9_72 (by decide) (by decide) ((lk_bn (by decide)).trans rfl) ?_
        refine lk_ialdN (f := 13) (i := (lk_rdn P n 4 a 0).2) dX9_readsBoat_66 rfl (by decide) rfl (by omega) (by decide) ?_
        refine lk_eqtop (y := (lk_cur P n (lk_rdn P n 4 a 0).2)) ((lk_bn (by decide)).trans ((hP _ hc2.1).trans hc2.2.symm)) ?_
        refine lk_bipush (v := 43) dX9_readsBoat_67 (by decide) ?_
        refine lk_icmp_ne (tgt := 76) dX9_readsBoat_69 (by decide) (fun hh9 => ?_) (fun hh9 => ?_)
        ·
          have hs3 : ¬ lk_cur P n (lk_rdn P n 4 a 0).2 = 43 := by assumption
          refine lk_iconst (v := 0) dX9_readsBoat_76 (by decide) ?_
          refine lk_iastN (f := 16) (i := (5) * (t) + 3) (v := 0) dX9_readsBoat_77 rfl (by decide) rfl (by omega) (by decide) ?_
          refine lk_sg (σ' := (lk_mb (lk_up (lk_up (lk_up (lk_up σ 1 14 0 (nI ((lk_rdn P n 4 a 0).2))) 1 15 0 (-1)) 1 16 ((5) * (t)) ((lk_rdn P n 4 a 0).1)) 1 16 ((5) * (t) + 3) 0) B)) (lk_bf (by decide)) ?_
          refine lk_aload_n dX9_readsBoat_78 rfl rfl ?_
          refine lk_dup dX9_readsBoat_79 rfl ?_
          refine lk_getIv (v := (nI ((lk_rdn P n 4 a 0).2))) (f := 14) dX9_readsBoat_80 rfl fX9_72 (by decide) (by decide) ((lk_bn (by decide)).trans rfl) ?_
          refine lk_iconst (v := 1) dX9_readsBoat_83 (by decide) ?_
          refine lk_iaddN (a := (lk_rdn P n 4 a 0).2) (b := 1) dX9_readsBoat_84 ?_
          refine lk_putI (f := 14) dX9_readsBoat_85 rfl fX9_72 (by decide) (by decide) ?_
          refine lk_sg (σ' := (lk_mb (lk_up (lk_up (lk_up (lk_up (lk_up σ 1 14 0 (nI ((lk_rdn P n 4 a 0).2))) 1 15 0 (-1)) 1 16 ((5) * (t)) ((lk_rdn P n 4 a 0).1)) 1 16 ((5) * (t) + 3) 0) 1 14 0 (nI ((lk_rdn P n 4 a 0).2 + 1))) B)) (lk_bf (by decide)) ?_
          refine lk_aload_n dX9_readsBoat_88 rfl rfl ?_
          refine lk_getR (f := 16) dX9_readsBoat_89 rfl fX9_27 (by decide) (by decide) ?_
          refine lk_iload_n dX9_readsBoat_92 rfl rfl ?_
          refine lk_iconst (v := 1) dX9_readsBoat_93 (by decide) ?_
          refine lk_iaddN (a := (5) * (t)) (b := 1) dX9_readsBoat_94 ?_
          refine lk_aload_n dX9_readsBoat_95 rfl rfl ?_
          refine lk_bipush (v := 9) dX9_readsBoat_96 (by decide) ?_
          rcases hg1 : lk_fgo P n ((lk_rdn P n 4 a 0).2 + 1) (nI 9) with _ | _
          ·
            refine lk_callV (o := 1) (as := [lk_vi 9]) (S := [lk_vi (nI ((5) * (t) + 1)), lk_vr 1 17]) dX9_readsBoat_98 rfl vX9_figure rfl lX9_89 rfl rfl (Nat.le_of_ble_eq_true rfl) (tX9_figure_no l X d (lk_up (lk_up (lk_up (lk_up (lk_up σ 1 14 0 (nI ((lk_rdn P n 4 a 0).2))) 1 15 0 (-1)) 1 16 ((5) * (t)) ((lk_rdn P n 4 a 0).1)) 1 16 ((5) * (t) + 3) 0) 1 14 0 (nI ((lk_rdn P n 4 a 0).2 + 1))) τ (L := (9)) (B := B) (P := P) (n := n) (hn60 := hn60) (htp := htp) (hP := hP) (a := (lk_rdn P n 4 a 0).2 + 1) (ha := rfl) (ha70 := by omega) (hf := rfl) (hr := hr) (hL := by omega) (hg := hg1)) ?_
            refine lk_k3 ?_
            refine lk_cast (pc' := 101) (S' := [lk_vi 0, lk_vi (nI ((5) * (t) + 1)), lk_vr 1 17]) rfl rfl rfl ?_
            refine lk_iastN (f := 16) (i := (5) * (t) + 1) (v := 0) dX9_readsBoat_101 rfl (by decide) rfl (by omega) (by decide) ?_
            refine lk_sg (σ' := (lk_mb (lk_up (lk_up (lk_up (lk_up (lk_up (lk_up (lk_up σ 1 14 0 (nI ((lk_rdn P n 4 a 0).2))) 1 15 0 (-1)) 1 16 ((5) * (t)) ((lk_rdn P n 4 a 0).1)) 1 16 ((5) * (t) + 3) 0) 1 14 0 (nI ((lk_rdn P n 4 a 0).2 + 1))) 1 15 0 (nI (((lk_rdn P n 4 a 0).2 + 1)))) 1 16 ((5) * (t) + 1) 0) B)) (lk_bf (by decide)) ?_
            refine lk_aload_n dX9_readsBoat_102 rfl rfl ?_
            refine lk_getR (f := 16) dX9_readsBoat_103 rfl fX9_27 (by decide) (by decide) ?_
            refine lk_iload_n dX9_readsBoat_106 rfl rfl ?_
            refine lk_iconst (v := 2) dX9_readsBoat_107 (by decide) ?_
            refine lk_iaddN (a := (5) * (t)) (b := 2) dX9_readsBoat_108 ?_
            refine lk_aload_n dX9_readsBoat_109 rfl rfl ?_
            refine lk_bipush (v := 9) dX9_readsBoat_110 (by decide) ?_
            refine lk_callV (o := 1) (as := [lk_vi 9]) (S := [lk_vi (nI ((5) * (t) + 2)), lk_vr 1 17]) dX9_readsBoat_112 rfl vX9_figure rfl lX9_89 rfl rfl (Nat.le_of_ble_eq_true rfl) (tX9_figure_bad l X d (lk_up (lk_up (lk_up (lk_up (lk_up (lk_up (lk_up σ 1 14 0 (nI ((lk_rdn P n 4 a 0).2))) 1 15 0 (-1)) 1 16 ((5) * (t)) ((lk_rdn P n 4 a 0).1)) 1 16 ((5) * (t) + 3) 0) 1 14 0 (nI ((lk_rdn P n 4 a 0).2 + 1))) 1 15 0 (nI (((lk_rdn P n 4 a 0).2 + 1)))) 1 16 ((5) * (t) + 1) 0) τ (L := (9)) (B := B) (hf := nI_pos' (by omega))) ?_
            refine lk_k3 ?_
            refine lk_cast (pc' := 115) (S' := [lk_vi 0, lk_vi (nI ((5) * (t) + 2)), lk_vr 1 17]) rfl rfl rfl ?_
            refine lk_iastN (f := 16) (i := (5) * (t) + 2) (v := 0) dX9_readsBoat_115 rfl (by decide) rfl (by omega) (by decide) ?_
            refine lk_sg (σ' := (lk_mb (lk_up (lk_up (lk_up (lk_up (lk_up (lk_up (lk_up (lk_up σ 1 14 0 (nI ((lk_rdn P n 4 a 0).2))) 1 15 0 (-1)) 1 16 ((5) * (t)) ((lk_rdn P n 4 a 0).1)) 1 16 ((5) * (t) + 3) 0) 1 14 0 (nI ((lk_rdn P n 4 a 0).2 + 1))) 1 15 0 (nI (((lk_rdn P n 4 a 0).2 + 1)))) 1 16 ((5) * (t) + 1) 0) 1 16 ((5) * (t) + 2) 0) B)) (lk_bf (by decide)) ?_
            refine lk_aload_n dX9_readsBoat_116 rfl rfl ?_
            refine lk_getR (f := 16) dX9_readsBoat_117 rfl fX9_27 (by decide) (by decide) ?_
            refine lk_iload_n dX9_readsBoat_120 rfl rfl ?_
            refine lk_iconst (v := 4) dX9_readsBoat_121 (by decide) ?_
            refine lk_iaddN (a := (5) * (t)) (b := 4) dX9_readsBoat_122 ?_
            refine lk_aload_n dX9_readsBoat_123 rfl rfl ?_
            refine lk_aload_n dX9_readsBoat_124 rfl rfl ?_
            refine lk_getR (f := 0) dX9_readsBoat_125 rfl fX9_9 (by decide) (by decide) ?_
            refine lk_bipush (v := 53) dX9_readsBoat_128 (by decide) ?_
            refine lk_ialdN (f := 0) (i := 53) dX9_readsBoat_130 rfl (by decide) rfl (by omega) (by decide) ?_
            refine lk_eqtop (y := (nI (L))) ((lk_bo (by decide)).trans hml) ?_
            refine lk_callV (o := 1) (as := [lk_vi (nI (L))]) (S := [lk_vi (nI ((5) * (t) + 4)), lk_vr 1 17]) dX9_readsBoat_131 rfl vX9_figure rfl lX9_89 rfl rfl (Nat.le_of_ble_eq_true rfl) (tX9_figure_bad l X d (lk_up (lk_up (lk_up (lk_up (lk_up (lk_up (lk_up (lk_up σ 1 14 0 (nI ((lk_rdn P n 4 a 0).2))) 1 15 0 (-1)) 1 16 ((5) * (t)) ((lk_rdn P n 4 a 0).1)) 1 16 ((5) * (t) + 3) 0) 1 14 0 (nI ((lk_rdn P n 4 a 0).2 + 1))) 1 15 0 (nI (((lk_rdn P n 4 a 0).2 + 1)))) 1 16 ((5) * (t) + 1) 0) 1 16 ((5) * (t) + 2) 0) τ (L := (L)) (B := B) (hf := nI_pos' (by omega))) ?_
            refine lk_k3 ?_
            refine lk_cast (pc' := 134) (S' := [lk_vi 0, lk_vi (nI ((5) * (t) + 4)), lk_vr 1 17]) rfl rfl rfl ?_
            refine lk_iastN (f := 16) (i := (5) * (t) + 4) (v := 0) dX9_readsBoat_134 rfl (by decide) rfl (by omega) (by decide) ?_
            refine lk_sg (σ' := (lk_mb (lk_up (lk_up (lk_up (lk_up (lk_up (lk_up (lk_up (lk_up (lk_up σ 1 14 0 (nI ((lk_rdn P n 4 a 0).2))) 1 15 0 (-1)) 1 16 ((5) * (t)) ((lk_rdn P n 4 a 0).1)) 1 16 ((5) * (t) + 3) 0) 1 14 0 (nI ((lk_rdn P n 4 a 0).2 + 1))) 1 15 0 (nI (((lk_rdn P n 4 a 0).2 + 1)))) 1 16 ((5) * (t) + 1) 0) 1 16 ((5) * (t) + 2) 0) 1 16 ((5) * (t) + 4) 0) B)) (lk_bf (by decide)) ?_
            refine lk_aload_n dX9_readsBoat_135 rfl rfl ?_
            refine lk_dup dX9_readsBoat_136 rfl ?_
            refine lk_getIv (v := (nI (t))) (f := 17) dX9_readsBoat_137 rfl fX9_82 (by decide) (by decide) ((lk_bn (by decide)).trans ht) ?_
            refine lk_iconst (v := 1) dX9_readsBoat_140 (by decide) ?_
            refine lk_iaddN (a := t) (b := 1) dX9_readsBoat_141 ?_
            refine lk_putI (f := 17) dX9_readsBoat_142 rfl fX9_82 (by decide) (by decide) ?_
            refine lk_sg (σ' := (lk_mb (lk_up (lk_up (lk_up (lk_up (lk_up (lk_up (lk_up (lk_up (lk_up (lk_up σ 1 14 0 (nI ((lk_rdn P n 4 a 0).2))) 1 15 0 (-1)) 1 16 ((5) * (t)) ((lk_rdn P n 4 a 0).1)) 1 16 ((5) * (t) + 3) 0) 1 14 0 (nI ((lk_rdn P n 4 a 0).2 + 1))) 1 15 0 (nI (((lk_rdn P n 4 a 0).2 + 1)))) 1 16 ((5) * (t) + 1) 0) 1 16 ((5) * (t) + 2) 0) 1 16 ((5) * (t) + 4) 0) 1 17 0 (nI (t + 1))) B)) (lk_bf (by decide)) ?_
            refine lk_vret dX9_readsBoat_145 rfl ?_
            rw [hQ]
            have hb : lk_rdb P n a (nI L) = (false, ((lk_rdn P n 4 a 0).2 + 1)) := by
              unfold lk_rdb
              simp only [lk_eq_b] at *
              first
                | contradiction
                | ((try clear hc2)
                   (try simp only [show (nI 9 : Int32) = 9 from rfl] at *)
                   simp [*])
            exact ⟨rfl, rfl, (lk_up (lk_up (lk_up (lk_up (lk_up (lk_up (lk_up (lk_up (lk_up (lk_up σ 1 14 0 (nI ((lk_rdn P n 4 a 0).2))) 1 15 0 (-1)) 1 16 ((5) * (t)) ((lk_rdn P n 4 a 0).1)) 1 16 ((5) * (t) + 3) 0) 1 14 0 (nI ((lk_rdn P n 4 a 0).2 + 1))) 1 15 0 (nI (((lk_rdn P n 4 a 0).2 + 1)))) 1 16 ((5) * (t) + 1) 0) 1 16 ((5) * (t) + 2) 0) 1 16 ((5) * (t) + 4) 0) 1 17 0 (nI (t + 1))), rfl, (lk_fx_up (lk_fx_up (lk_fx_up (lk_fx_up (lk_fx_up (lk_fx_up (lk_fx_up (lk_fx_up (lk_fx_up (lk_fx_up (lk_fx_rf _ _) (by decide)) (by decide)) (by decide)) (by decide)) (by decide)) (by decide)) (by decide)) (by decide)) (by decide)) (by decide)), (fun h => by rw [hb] at h; cases h), (fun _ => by rw [hb]; rfl)⟩
          ·
            refine lk_callV (o := 1) (as := [lk_vi 9]) (S := [lk_vi (nI ((5) * (t) + 1)), lk_vr 1 17]) dX9_readsBoat_98 rfl vX9_figure rfl lX9_89 rfl rfl (Nat.le_of_ble_eq_true rfl) (tX9_figure_ok l X d (lk_up (lk_up (lk_up (lk_up (lk_up σ 1 14 0 (nI ((lk_rdn P n 4 a 0).2))) 1 15 0 (-1)) 1 16 ((5) * (t)) ((lk_rdn P n 4 a 0).1)) 1 16 ((5) * (t) + 3) 0) 1 14 0 (nI ((lk_rdn P n 4 a 0).2 + 1))) τ (L := (9)) (B := B) (P := P) (n := n) (hn60 := hn60) (htp := htp) (hP := hP) (a := (lk_rdn P n 4 a 0).2 + 1) (ha := rfl) (ha70 := by omega) (hf := rfl) (hr := hr) (hL := by omega) (hg := hg1)) ?_
            refine lk_k3 ?_
            refine lk_cast (pc' := 101) (S' := [lk_vi (lk_cur P n ((lk_rdn P n 4 a 0).2 + 1) - 48), lk_vi (nI ((5) * (t) + 1)), lk_vr 1 17]) rfl rfl rfl ?_
            refine lk_iastN (f := 16) (i := (5) * (t) + 1) (v := (lk_cur P n ((lk_rdn P n 4 a 0).2 + 1) - 48)) dX9_readsBoat_101 rfl (by decide) rfl (by omega) (by decide) ?_
            refine lk_sg (σ' := (lk_mb (lk_up (lk_up (lk_up (lk_up (lk_up (lk_up (lk_up σ 1 14 0 (nI ((lk_rdn P n 4 a 0).2))) 1 15 0 (-1)) 1 16 ((5) * (t)) ((lk_rdn P n 4 a 0).1)) 1 16 ((5) * (t) + 3) 0) 1 14 0 (nI ((lk_rdn P n 4 a 0).2 + 1))) 1 14 0 (nI (((lk_rdn P n 4 a 0).2 + 1) + 1))) 1 16 ((5) * (t) + 1) (lk_cur P n ((lk_rdn P n 4 a 0).2 + 1) - 48)) B)) (lk_bf (by decide)) ?_
            refine lk_aload_n dX9_readsBoat_102 rfl rfl ?_
            refine lk_getR (f := 16) dX9_readsBoat_103 rfl fX9_27 (by decide) (by decide) ?_
            refine lk_iload_n dX9_readsBoat_106 rfl rfl ?_
            refine lk_iconst (v := 2) dX9_readsBoat_107 (by decide) ?_
            refine lk_iaddN (a := (5) * (t)) (b := 2) dX9_readsBoat_108 ?_
            refine lk_aload_n dX9_readsBoat_109 rfl rfl ?_
            refine lk_bipush (v := 9) dX9_readsBoat_110 (by decide) ?_
            rcases hg2 : lk_fgo P n (((lk_rdn P n 4 a 0).2 + 1) + 1) (nI 9) with _ | _
            ·
              refine lk_callV (o := 1) (as := [lk_vi 9]) (S := [lk_vi (nI ((5) * (t) + 2)), lk_vr 1 17]) dX9_readsBoat_112 rfl vX9_figure rfl lX9_89 rfl rfl (Nat.le_of_ble_eq_true rfl) (tX9_figure_no l X d (lk_up (lk_up (lk_up (lk_up (lk_up (lk_up (lk_up σ 1 14 0 (nI ((lk_rdn P n 4 a 0).2))) 1 15 0 (-1)) 1 16 ((5) * (t)) ((lk_rdn P n 4 a 0).1)) 1 16 ((5) * (t) + 3) 0) 1 14 0 (nI ((lk_rdn P n 4 a 0).2 + 1))) 1 14 0 (nI (((lk_rdn P n 4 a 0).2 + 1) + 1))) 1 16 ((5) * (t) + 1) (lk_cur P n ((lk_rdn P n 4 a 0).2 + 1) - 48)) τ (L := (9)) (B := B) (P := P) (n := n) (hn60 := hn60) (htp := htp) (hP := hP) (a := ((lk_rdn P n 4 a 0).2 + 1) + 1) (ha := rfl) (ha70 := by omega) (hf := rfl) (hr := hr) (hL := by omega) (hg := hg2)) ?_
              refine lk_k3 ?_
              refine lk_cast (pc' := 115) (S' := [lk_vi 0, lk_vi (nI ((5) * (t) + 2)), lk_vr 1 17]) rfl rfl rfl ?_
              refine lk_iastN (f := 16) (i := (5) * (t) + 2) (v := 0) dX9_readsBoat_115 rfl (by decide) rfl (by omega) (by decide) ?_
              refine lk_sg (σ' := (lk_mb (lk_up (lk_up (lk_up (lk_up (lk_up (lk_up (lk_up (lk_up (lk_up σ 1 14 0 (nI ((lk_rdn P n 4 a 0).2))) 1 15 0 (-1)) 1 16 ((5) * (t)) ((lk_rdn P n 4 a 0).1)) 1 16 ((5) * (t) + 3) 0) 1 14 0 (nI ((lk_rdn P n 4 a 0).2 + 1))) 1 14 0 (nI (((lk_rdn P n 4 a 0).2 + 1) + 1))) 1 16 ((5) * (t) + 1) (lk_cur P n ((lk_rdn P n 4 a 0).2 + 1) - 48)) 1 15 0 (nI ((((lk_rdn P n 4 a 0).2 + 1) + 1)))) 1 16 ((5) * (t) + 2) 0) B)) (lk_bf (by decide)) ?_
              refine lk_aload_n dX9_readsBoat_116 rfl rfl ?_
              refine lk_getR (f := 16) dX9_readsBoat_117 rfl fX9_27 (by decide) (by decide) ?_
              refine lk_iload_n dX9_readsBoat_120 rfl rfl ?_
              refine lk_iconst (v := 4) dX9_readsBoat_121 (by decide) ?_
              refine lk_iaddN (a := (5) * (t)) (b := 4) dX9_readsBoat_122 ?_
              refine lk_aload_n dX9_readsBoat_123 rfl rfl ?_
              refine lk_aload_n dX9_readsBoat_124 rfl rfl ?_
              refine lk_getR (f := 0) dX9_readsBoat_125 rfl fX9_9 (by decide) (by decide) ?_
              refine lk_bipush (v := 53) dX9_readsBoat_128 (by decide) ?_
              refine lk_ialdN (f := 0) (i := 53) dX9_readsBoat_130 rfl (by decide) rfl (by omega) (by decide) ?_
              refine lk_eqtop (y := (nI (L))) ((lk_bo (by decide)).trans hml) ?_
              refine lk_callV (o := 1) (as := [lk_vi (nI (L))]) (S := [lk_vi (nI ((5) * (t) + 4)), lk_vr 1 17]) dX9_readsBoat_131 rfl vX9_figure rfl lX9_89 rfl rfl (Nat.le_of_ble_eq_true rfl) (tX9_figure_bad l X d (lk_up (lk_up (lk_up (lk_up (lk_up (lk_up (lk_up (lk_up (lk_up σ 1 14 0 (nI ((lk_rdn P n 4 a 0).2))) 1 15 0 (-1)) 1 16 ((5) * (t)) ((lk_rdn P n 4 a 0).1)) 1 16 ((5) * (t) + 3) 0) 1 14 0 (nI ((lk_rdn P n 4 a 0).2 + 1))) 1 14 0 (nI (((lk_rdn P n 4 a 0).2 + 1) + 1))) 1 16 ((5) * (t) + 1) (lk_cur P n ((lk_rdn P n 4 a 0).2 + 1) - 48)) 1 15 0 (nI ((((lk_rdn P n 4 a 0).2 + 1) + 1)))) 1 16 ((5) * (t) + 2) 0) τ (L := (L)) (B := B) (hf := nI_pos' (by omega))) ?_
              refine lk_k3 ?_
              refine lk_cast (pc' := 134) (S' := [lk_vi 0, lk_vi (nI ((5) * (t) + 4)), lk_vr 1 17]) rfl rfl rfl ?_
              refine lk_iastN (f := 16) (i := (5) * (t) + 4) (v := 0) dX9_readsBoat_134 rfl (by decide) rfl (by omega) (by decide) ?_
              refine lk_sg (σ' := (lk_mb (lk_up (lk_up (lk_up (lk_up (lk_up (lk_up (lk_up (lk_up (lk_up (lk_up σ 1 14 0 (nI ((lk_rdn P n 4 a 0).2))) 1 15 0 (-1)) 1 16 ((5) * (t)) ((lk_rdn P n 4 a 0).1)) 1 16 ((5) * (t) + 3) 0) 1 14 0 (nI ((lk_rdn P n 4 a 0).2 + 1))) 1 14 0 (nI (((lk_rdn P n 4 a 0).2 + 1) + 1))) 1 16 ((5) * (t) + 1) (lk_cur P n ((lk_rdn P n 4 a 0).2 + 1) - 48)) 1 15 0 (nI ((((lk_rdn P n 4 a 0).2 + 1) + 1)))) 1 16 ((5) * (t) + 2) 0) 1 16 ((5) * (t) + 4) 0) B)) (lk_bf (by decide)) ?_
              refine lk_aload_n dX9_readsBoat_135 rfl rfl ?_
              refine lk_dup dX9_readsBoat_136 rfl ?_
              refine lk_getIv (v := (nI (t))) (f := 17) dX9_readsBoat_137 rfl fX9_82 (by decide) (by decide) ((lk_bn (by decide)).trans ht) ?_
              refine lk_iconst (v := 1) dX9_readsBoat_140 (by decide) ?_
              refine lk_iaddN (a := t) (b := 1) dX9_readsBoat_141 ?_
              refine lk_putI (f := 17) dX9_readsBoat_142 rfl fX9_82 (by decide) (by decide) ?_
              refine lk_sg (σ' := (lk_mb (lk_up (lk_up (lk_up (lk_up (lk_up (lk_up (lk_up (lk_up (lk_up (lk_up (lk_up σ 1 14 0 (nI ((lk_rdn P n 4 a 0).2))) 1 15 0 (-1)) 1 16 ((5) * (t)) ((lk_rdn P n 4 a 0).1)) 1 16 ((5) * (t) + 3) 0) 1 14 0 (nI ((lk_rdn P n 4 a 0).2 + 1))) 1 14 0 (nI (((lk_rdn P n 4 a 0).2 + 1) + 1))) 1 16 ((5) * (t) + 1) (lk_cur P n ((lk_rdn P n 4 a 0).2 + 1) - 48)) 1 15 0 (nI ((((lk_rdn P n 4 a 0).2 + 1) + 1)))) 1 16 ((5) * (t) + 2) 0) 1 16 ((5) * (t) + 4) 0) 1 17 0 (nI (t + 1))) B)) (lk_bf (by decide)) ?_
              refine lk_vret dX9_readsBoat_145 rfl ?_
              rw [hQ]
              have hb : lk_rdb P n a (nI L) = (false, (((lk_rdn P n 4 a 0).2 + 1) + 1)) := by
                unfold lk_rdb
                simp only [lk_eq_b] at *
                first
                  | contradiction
                  | ((try clear hc2)
                     (try simp only [show (nI 9 : Int32) = 9 from rfl] at *)
                     simp [*])
              exact ⟨rfl, rfl, (lk_up (lk_up (lk_up (lk_up (lk_up (lk_up (lk_up (lk_up (lk_up (lk_up (lk_up σ 1 14 0 (nI ((lk_rdn P n 4 a 0).2))) 1 15 0 (-1)) 1 16 ((5) * (t)) ((lk_rdn P n 4 a 0).1)) 1 16 ((5) * (t) + 3) 0) 1 14 0 (nI ((lk_rdn P n 4 a 0).2 + 1))) 1 14 0 (nI (((lk_rdn P n 4 a 0).2 + 1) + 1))) 1 16 ((5) * (t) + 1) (lk_cur P n ((lk_rdn P n 4 a 0).2 + 1) - 48)) 1 15 0 (nI ((((lk_rdn P n 4 a 0).2 + 1) + 1)))) 1 16 ((5) * (t) + 2) 0) 1 16 ((5) * (t) + 4) 0) 1 17 0 (nI (t + 1))), rfl, (lk_fx_up (lk_fx_up (lk_fx_up (lk_fx_up (lk_fx_up (lk_fx_up (lk_fx_up (lk_fx_up (lk_fx_up (lk_fx_up (lk_fx_up (lk_fx_rf _ _) (by decide)) (by decide)) (by decide)) (by decide)) (by decide)) (by decide)) (by decide)) (by decide)) (by decide)) (by decide)) (by decide)), (fun h => by rw [hb] at h; cases h), (fun _ => by rw [hb]; rfl)⟩
            ·
              refine lk_callV (o := 1) (as := [lk_vi 9]) (S := [lk_vi (nI ((5) * (t) + 2)), lk_vr 1 17]) dX9_readsBoat_112 rfl vX9_figure rfl lX9_89 rfl rfl (Nat.le_of_ble_eq_true rfl) (tX9_figure_ok l X d (lk_up (lk_up (lk_up (lk_up (lk_up (lk_up (lk_up σ 1 14 0 (nI ((lk_rdn P n 4 a 0).2))) 1 15 0 (-1)) 1 16 ((5) * (t)) ((lk_rdn P n 4 a 0).1)) 1 16 ((5) * (t) + 3) 0) 1 14 0 (nI ((lk_rdn P n 4 a 0).2 + 1))) 1 14 0 (nI (((lk_rdn P n 4 a 0).2 + 1) + 1))) 1 16 ((5) * (t) + 1) (lk_cur P n ((lk_rdn P n 4 a 0).2 + 1) - 48)) τ (L := (9)) (B := B) (P := P) (n := n) (hn60 := hn60) (htp := htp) (hP := hP) (a := ((lk_rdn P n 4 a 0).2 + 1) + 1) (ha := rfl) (ha70 := by omega) (hf := rfl) (hr := hr) (hL := by omega) (hg := hg2)) ?_
              refine lk_k3 ?_
              refine lk_cast (pc' := 115) (S' := [lk_vi (lk_cur P n (((lk_rdn P n 4 a 0).2 + 1) + 1) - 48), lk_vi (nI ((5) * (t) + 2)), lk_vr 1 17]) rfl rfl rfl ?_
              refine lk_iastN (f := 16) (i := (5) * (t) + 2) (v := (lk_cur P n (((lk_rdn P n 4 a 0).2 + 1) + 1) - 48)) dX9_readsBoat_115 rfl (by decide) rfl (by omega) (by decide) ?_
              refine lk_sg (σ' := (lk_mb (lk_up (lk_up (lk_up (lk_up (lk_up (lk_up (lk_up (lk_up (lk_up σ 1 14 0 (nI ((lk_rdn P n 4 a 0).2))) 1 15 0 (-1)) 1 16 ((5) * (t)) ((lk_rdn P n 4 a 0).1)) 1 16 ((5) * (t) + 3) 0) 1 14 0 (nI ((lk_rdn P n 4 a 0).2 + 1))) 1 14 0 (nI (((lk_rdn P n 4 a 0).2 + 1) + 1))) 1 16 ((5) * (t) + 1) (lk_cur P n ((lk_rdn P n 4 a 0).2 + 1) - 48)) 1 14 0 (nI ((((lk_rdn P n 4 a 0).2 + 1) + 1) + 1))) 1 16 ((5) * (t) + 2) (lk_cur P n (((lk_rdn P n 4 a 0).2 + 1) + 1) - 48)) B)) (lk_bf (by decide)) ?_
              refine lk_aload_n dX9_readsBoat_116 rfl rfl ?_
              refine lk_getR (f := 16) dX9_readsBoat_117 rfl fX9_27 (by decide) (by decide) ?_
              refine lk_iload_n dX9_readsBoat_120 rfl rfl ?_
              refine lk_iconst (v := 4) dX9_readsBoat_121 (by decide) ?_
              refine lk_iaddN (a := (5) * (t)) (b := 4) dX9_readsBoat_122 ?_
              refine lk_aload_n dX9_readsBoat_123 rfl rfl ?_
              refine lk_aload_n dX9_readsBoat_124 rfl rfl ?_
              refine lk_getR (f := 0) dX9_readsBoat_125 rfl fX9_9 (by decide) (by decide) ?_
              refine lk_bipush (v := 53) dX9_readsBoat_128 (by decide) ?_
              refine lk_ialdN (f := 0) (i := 53) dX9_readsBoat_130 rfl (by decide) rfl (by omega) (by decide) ?_
              refine lk_eqtop (y := (nI (L))) ((lk_bo (by decide)).trans hml) ?_
              rcases hg3 : lk_fgo P n ((((lk_rdn P n 4 a 0).2 + 1) + 1) + 1) (nI L) with _ | _
              ·
                refine lk_callV (o := 1) (as := [lk_vi (nI (L))]) (S := [lk_vi (nI ((5) * (t) + 4)), lk_vr 1 17]) dX9_readsBoat_131 rfl vX9_figure rfl lX9_89 rfl rfl (Nat.le_of_ble_eq_true rfl) (tX9_figure_no l X d (lk_up (lk_up (lk_up (lk_up (lk_up (lk_up (lk_up (lk_up (lk_up σ 1 14 0 (nI ((lk_rdn P n 4 a 0).2))) 1 15 0 (-1)) 1 16 ((5) * (t)) ((lk_rdn P n 4 a 0).1)) 1 16 ((5) * (t) + 3) 0) 1 14 0 (nI ((lk_rdn P n 4 a 0).2 + 1))) 1 14 0 (nI (((lk_rdn P n 4 a 0).2 + 1) + 1))) 1 16 ((5) * (t) + 1) (lk_cur P n ((lk_rdn P n 4 a 0).2 + 1) - 48)) 1 14 0 (nI ((((lk_rdn P n 4 a 0).2 + 1) + 1) + 1))) 1 16 ((5) * (t) + 2) (lk_cur P n (((lk_rdn P n 4 a 0).2 + 1) + 1) - 48)) τ (L := (L)) (B := B) (P := P) (n := n) (hn60 := hn60) (htp := htp) (hP := hP) (a := (((lk_rdn P n 4 a 0).2 + 1) + 1) + 1) (ha := rfl) (ha70 := by omega) (hf := rfl) (hr := hr) (hL := by omega) (hg := hg3)) ?_
                refine lk_k3 ?_
                refine lk_cast (pc' := 134) (S' := [lk_vi 0, lk_vi (nI ((5) * (t) + 4)), lk_vr 1 17]) rfl rfl rfl ?_
                refine lk_iastN (f := 16) (i := (5) * (t) + 4) (v := 0) dX9_readsBoat_134 rfl (by decide) rfl (by omega) (by decide) ?_
                refine lk_sg (σ' := (lk_mb (lk_up (lk_up (lk_up (lk_up (lk_up (lk_up (lk_up (lk_up (lk_up (lk_up (lk_up σ 1 14 0 (nI ((lk_rdn P n 4 a 0).2))) 1 15 0 (-1)) 1 16 ((5) * (t)) ((lk_rdn P n 4 a 0).1)) 1 16 ((5) * (t) + 3) 0) 1 14 0 (nI ((lk_rdn P n 4 a 0).2 + 1))) 1 14 0 (nI (((lk_rdn P n 4 a 0).2 + 1) + 1))) 1 16 ((5) * (t) + 1) (lk_cur P n ((lk_rdn P n 4 a 0).2 + 1) - 48)) 1 14 0 (nI ((((lk_rdn P n 4 a 0).2 + 1) + 1) + 1))) 1 16 ((5) * (t) + 2) (lk_cur P n (((lk_rdn P n 4 a 0).2 + 1) + 1) - 48)) 1 15 0 (nI (((((lk_rdn P n 4 a 0).2 + 1) + 1) + 1)))) 1 16 ((5) * (t) + 4) 0) B)) (lk_bf (by decide)) ?_
                refine lk_aload_n dX9_readsBoat_135 rfl rfl ?_
                refine lk_dup dX9_readsBoat_136 rfl ?_
                refine lk_getIv (v := (nI (t))) (f := 17) dX9_readsBoat_137 rfl fX9_82 (by decide) (by decide) ((lk_bn (by decide)).trans ht) ?_
                refine lk_iconst (v := 1) dX9_readsBoat_140 (by decide) ?_
                refine lk_iaddN (a := t) (b := 1) dX9_readsBoat_141 ?_
                refine lk_putI (f := 17) dX9_readsBoat_142 rfl fX9_82 (by decide) (by decide) ?_
                refine lk_sg (σ' := (lk_mb (lk_up (lk_up (lk_up (lk_up (lk_up (lk_up (lk_up (lk_up (lk_up (lk_up (lk_up (lk_up σ 1 14 0 (nI ((lk_rdn P n 4 a 0).2))) 1 15 0 (-1)) 1 16 ((5) * (t)) ((lk_rdn P n 4 a 0).1)) 1 16 ((5) * (t) + 3) 0) 1 14 0 (nI ((lk_rdn P n 4 a 0).2 + 1))) 1 14 0 (nI (((lk_rdn P n 4 a 0).2 + 1) + 1))) 1 16 ((5) * (t) + 1) (lk_cur P n ((lk_rdn P n 4 a 0).2 + 1) - 48)) 1 14 0 (nI ((((lk_rdn P n 4 a 0).2 + 1) + 1) + 1))) 1 16 ((5) * (t) + 2) (lk_cur P n (((lk_rdn P n 4 a 0).2 + 1) + 1) - 48)) 1 15 0 (nI (((((lk_rdn P n 4 a 0).2 + 1) + 1) + 1)))) 1 16 ((5) * (t) + 4) 0) 1 17 0 (nI (t + 1))) B)) (lk_bf (by decide)) ?_
                refine lk_vret dX9_readsBoat_145 rfl ?_
                rw [hQ]
                have hb : lk_rdb P n a (nI L) = (false, ((((lk_rdn P n 4 a 0).2 + 1) + 1) + 1)) := by
                  unfold lk_rdb
                  simp only [lk_eq_b] at *
                  first
                    | contradiction
                    | ((try clear hc2)
                       (try simp only [show (nI 9 : Int32) = 9 from rfl] at *)
                       simp [*])
                exact ⟨rfl, rfl, (lk_up (lk_up (lk_up (lk_up (lk_up (lk_up (lk_up (lk_up (lk_up (lk_up (lk_up (lk_up σ 1 14 0 (nI ((lk_rdn P n 4 a 0).2))) 1 15 0 (-1)) 1 16 ((5) * (t)) ((lk_rdn P n 4 a 0).1)) 1 16 ((5) * (t) + 3) 0) 1 14 0 (nI ((lk_rdn P n 4 a 0).2 + 1))) 1 14 0 (nI (((lk_rdn P n 4 a 0).2 + 1) + 1))) 1 16 ((5) * (t) + 1) (lk_cur P n ((lk_rdn P n 4 a 0).2 + 1) - 48)) 1 14 0 (nI ((((lk_rdn P n 4 a 0).2 + 1) + 1) + 1))) 1 16 ((5) * (t) + 2) (lk_cur P n (((lk_rdn P n 4 a 0).2 + 1) + 1) - 48)) 1 15 0 (nI (((((lk_rdn P n 4 a 0).2 + 1) + 1) + 1)))) 1 16 ((5) * (t) + 4) 0) 1 17 0 (nI (t + 1))), rfl, (lk_fx_up (lk_fx_up (lk_fx_up (lk_fx_up (lk_fx_up (lk_fx_up (lk_fx_up (lk_fx_up (lk_fx_up (lk_fx_up (lk_fx_up (lk_fx_up (lk_fx_rf _ _) (by decide)) (by decide)) (by decide)) (by decide)) (by decide)) (by decide)) (by decide)) (by decide)) (by decide)) (by decide)) (by decide)) (by decide)), (fun h => by rw [hb] at h; cases h), (fun _ => by rw [hb]; rfl)⟩
              ·
                refine lk_callV (o := 1) (as := [lk_vi (nI (L))]) (S := [lk_vi (nI ((5) * (t) + 4)), lk_vr 1 17]) dX9_readsBoat_131 rfl vX9_figure rfl lX9_89 rfl rfl (Nat.le_of_ble_eq_true rfl) (tX9_figure_ok l X d (lk_up (lk_up (lk_up (lk_up (lk_up (lk_up (lk_up (lk_up (lk_up σ 1 14 0 (nI ((lk_rdn P n 4 a 0).2))) 1 15 0 (-1)) 1 16 ((5) * (t)) ((lk_rdn P n 4 a 0).1)) 1 16 ((5) * (t) + 3) 0) 1 14 0 (nI ((lk_rdn P n 4 a 0).2 + 1))) 1 14 0 (nI (((lk_rdn P n 4 a 0).2 + 1) + 1))) 1 16 ((5) * (t) + 1) (lk_cur P n ((lk_rdn P n 4 a 0).2 + 1) - 48)) 1 14 0 (nI ((((lk_rdn P n 4 a 0).2 + 1) + 1) + 1))) 1 16 ((5) * (t) + 2) (lk_cur P n (((lk_rdn P n 4 a 0).2 + 1) + 1) - 48)) τ (L := (L)) (B := B) (P := P) (n := n) (hn60 := hn60) (htp := htp) (hP := hP) (a := (((lk_rdn P n 4 a 0).2 + 1) + 1) + 1) (ha := rfl) (ha70 := by omega) (hf := rfl) (hr := hr) (hL := by omega) (hg := hg3)) ?_
                refine lk_k3 ?_
                refine lk_cast (pc' := 134) (S' := [lk_vi (lk_cur P n ((((lk_rdn P n 4 a 0).2 + 1) + 1) + 1) - 48), lk_vi (nI ((5) * (t) + 4)), lk_vr 1 17]) rfl rfl rfl ?_
                refine lk_iastN (f := 16) (i := (5) * (t) + 4) (v := (lk_cur P n ((((lk_rdn P n 4 a 0).2 + 1) + 1) + 1) - 48)) dX9_readsBoat_134 rfl (by decide) rfl (by omega) (by decide) ?_
                refine lk_sg (σ' := (lk_mb (lk_up (lk_up (lk_up (lk_up (lk_up (lk_up (lk_up (lk_up (lk_up (lk_up (lk_up σ 1 14 0 (nI ((lk_rdn P n 4 a 0).2))) 1 15 0 (-1)) 1 16 ((5) * (t)) ((lk_rdn P n 4 a 0).1)) 1 16 ((5) * (t) + 3) 0) 1 14 0 (nI ((lk_rdn P n 4 a 0).2 + 1))) 1 14 0 (nI (((lk_rdn P n 4 a 0).2 + 1) + 1))) 1 16 ((5) * (t) + 1) (lk_cur P n ((lk_rdn P n 4 a 0).2 + 1) - 48)) 1 14 0 (nI ((((lk_rdn P n 4 a 0).2 + 1) + 1) + 1))) 1 16 ((5) * (t) + 2) (lk_cur P n (((lk_rdn P n 4 a 0).2 + 1) + 1) - 48)) 1 14 0 (nI (((((lk_rdn P n 4 a 0).2 + 1) + 1) + 1) + 1))) 1 16 ((5) * (t) + 4) (lk_cur P n ((((lk_rdn P n 4 a 0).2 + 1) + 1) + 1) - 48)) B)) (lk_bf (by decide)) ?_
                refine lk_aload_n dX9_readsBoat_135 rfl rfl ?_
                refine lk_dup dX9_readsBoat_136 rfl ?_
                refine lk_getIv (v := (nI (t))) (f := 17) dX9_readsBoat_137 rfl fX9_82 (by decide) (by decide) ((lk_bn (by decide)).trans ht) ?_
                refine lk_iconst (v := 1) dX9_readsBoat_140 (by decide) ?_
                refine lk_iaddN (a := t) (b := 1) dX9_readsBoat_141 ?_
                refine lk_putI (f := 17) dX9_readsBoat_142 rfl fX9_82 (by decide) (by decide) ?_
                refine lk_sg (σ' := (lk_mb (lk_up (lk_up (lk_up (lk_up (lk_up (lk_up (lk_up (lk_up (lk_up (lk_up (lk_up (lk_up σ 1 14 0 (nI ((lk_rdn P n 4 a 0).2))) 1 15 0 (-1)) 1 16 ((5) * (t)) ((lk_rdn P n 4 a 0).1)) 1 16 ((5) * (t) + 3) 0) 1 14 0 (nI ((lk_rdn P n 4 a 0).2 + 1))) 1 14 0 (nI (((lk_rdn P n 4 a 0).2 + 1) + 1))) 1 16 ((5) * (t) + 1) (lk_cur P n ((lk_rdn P n 4 a 0).2 + 1) - 48)) 1 14 0 (nI ((((lk_rdn P n 4 a 0).2 + 1) + 1) + 1))) 1 16 ((5) * (t) + 2) (lk_cur P n (((lk_rdn P n 4 a 0).2 + 1) + 1) - 48)) 1 14 0 (nI (((((lk_rdn P n 4 a 0).2 + 1) + 1) + 1) + 1))) 1 16 ((5) * (t) + 4) (lk_cur P n ((((lk_rdn P n 4 a 0).2 + 1) + 1) + 1) - 48)) 1 17 0 (nI (t + 1))) B)) (lk_bf (by decide)) ?_
                refine lk_vret dX9_readsBoat_145 rfl ?_
                rw [hQ]
                have hb : lk_rdb P n a (nI L) = (true, (lk_rdn P n 4 a 0).2 + 1 + 1 + 1 + 1) := by
                  unfold lk_rdb
                  simp only [lk_eq_b] at *
                  first
                    | contradiction
                    | ((try clear hc2)
                       (try simp only [show (nI 9 : Int32) = 9 from rfl] at *)
                       simp [*])
                refine ⟨rfl, rfl, (lk_up (lk_up (lk_up (lk_up (lk_up (lk_up (lk_up (lk_up (lk_up (lk_up (lk_up (lk_up σ 1 14 0 (nI ((lk_rdn P n 4 a 0).2))) 1 15 0 (-1)) 1 16 ((5) * (t)) ((lk_rdn P n 4 a 0).1)) 1 16 ((5) * (t) + 3) 0) 1 14 0 (nI ((lk_rdn P n 4 a 0).2 + 1))) 1 14 0 (nI (((lk_rdn P n 4 a 0).2 + 1) + 1))) 1 16 ((5) * (t) + 1) (lk_cur P n ((lk_rdn P n 4 a 0).2 + 1) - 48)) 1 14 0 (nI ((((lk_rdn P n 4 a 0).2 + 1) + 1) + 1))) 1 16 ((5) * (t) + 2) (lk_cur P n (((lk_rdn P n 4 a 0).2 + 1) + 1) - 48)) 1 14 0 (nI (((((lk_rdn P n 4 a 0).2 + 1) + 1) + 1) + 1))) 1 16 ((5) * (t) + 4) (lk_cur P n ((((lk_rdn P n 4 a 0).2 + 1) + 1) + 1) - 48)) 1 17 0 (nI (t + 1))), rfl, (lk_fx_up (lk_fx_up (lk_fx_up (lk_fx_up (lk_fx_up (lk_fx_up (lk_fx_up (lk_fx_up (lk_fx_up (lk_fx_up (lk_fx_up (lk_fx_up (lk_fx_rf _ _) (by decide)) (by decide)) (by decide)) (by decide)) (by decide)) (by decide)) (by decide)) (by decide)) (by decide)) (by decide)) (by decide)) (by decide)), fun _ => ⟨by rw [hb]; rfl, rfl, rfl, fun f hf5 => ?_, fun x hx => ?_⟩, (fun h => by rw [hb] at h; cases h)⟩
                · rcases (show f = 0 ∨ f = 1 ∨ f = 2 ∨ f = 3 ∨ f = 4 by omega) with rfl | rfl | rfl | rfl | rfl
                  · simp [lk_up, lk_rdw]
                  · simp [lk_up, lk_rdw]
                  · simp [lk_up, lk_rdw]
                  · simp only [lk_up, lk_rdw]
                    simp [hs3]
                  · simp [lk_up, lk_rdw]
                · simp only [lk_up]
                  simp
                  rw [if_neg (by omega), if_neg (by omega), if_neg (by omega), if_neg (by omega), if_neg (by omega)]
        ·
          have hs3 : lk_cur P n (lk_rdn P n 4 a 0).2 = 43 := by first | assumption | exact Decidable.not_not.mp (by assumption)
          refine lk_iconst (v := 1) dX9_readsBoat_72 (by decide) ?_
          refine lk_goto (tgt := 77) dX9_readsBoat_73 (by decide) ?_
          refine lk_iastN (f := 16) (i := (5) * (t) + 3) (v := 1) dX9_readsBoat_77 rfl (by decide) rfl (by omega) (by decide) ?_
          refine lk_sg (σ' := (lk_mb (lk_up (lk_up (lk_up (lk_up σ 1 14 0 (nI ((lk_rdn P n 4 a 0).2))) 1 15 0 (-1)) 1 16 ((5) * (t)) ((lk_rdn P n 4 a 0).1)) 1 16 ((5) * (t) + 3) 1) B)) (lk_bf (by decide)) ?_
          refine lk_aload_n dX9_readsBoat_78 rfl rfl ?_
          refine lk_dup dX9_readsBoat_79 rfl ?_
          refine lk_getIv (v := (nI ((lk_rdn P n 4 a 0).2))) (f := 14) dX9_readsBoat_80 rfl fX9_72 (by decide) (by decide) ((lk_bn (by decide)).trans rfl) ?_
          refine lk_iconst (v := 1) dX9_readsBoat_83 (by decide) ?_
          refine lk_iaddN (a := (lk_rdn P n 4 a 0).2) (b := 1) dX9_readsBoat_84 ?_
          refine lk_putI (f := 14) dX9_readsBoat_85 rfl fX9_72 (by decide) (by decide) ?_
          refine lk_sg (σ' := (lk_mb (lk_up (lk_up (lk_up (lk_up (lk_up σ 1 14 0 (nI ((lk_rdn P n 4 a 0).2))) 1 15 0 (-1)) 1 16 ((5) * (t)) ((lk_rdn P n 4 a 0).1)) 1 16 ((5) * (t) + 3) 1) 1 14 0 (nI ((lk_rdn P n 4 a 0).2 + 1))) B)) (lk_bf (by decide)) ?_
          refine lk_aload_n dX9_readsBoat_88 rfl rfl ?_
          refine lk_getR (f := 16) dX9_readsBoat_89 rfl fX9_27 (by decide) (by decide) ?_
          refine lk_iload_n dX9_readsBoat_92 rfl rfl ?_
          refine lk_iconst (v := 1) dX9_readsBoat_93 (by decide) ?_
          refine lk_iaddN (a := (5) * (t)) (b := 1) dX9_readsBoat_94 ?_
          refine lk_aload_n dX9_readsBoat_95 rfl rfl ?_
          refine lk_bipush (v := 9) dX9_readsBoat_96 (by decide) ?_
          rcases hg1 : lk_fgo P n ((lk_rdn P n 4 a 0).2 + 1) (nI 9) with _ | _
          ·
            refine lk_callV (o := 1) (as := [lk_vi 9]) (S := [lk_vi (nI ((5) * (t) + 1)), lk_vr 1 17]) dX9_readsBoat_98 rfl vX9_figure rfl lX9_89 rfl rfl (Nat.le_of_ble_eq_true rfl) (tX9_figure_no l X d (lk_up (lk_up (lk_up (lk_up (lk_up σ 1 14 0 (nI ((lk_rdn P n 4 a 0).2))) 1 15 0 (-1)) 1 16 ((5) * (t)) ((lk_rdn P n 4 a 0).1)) 1 16 ((5) * (t) + 3) 1) 1 14 0 (nI ((lk_rdn P n 4 a 0).2 + 1))) τ (L := (9)) (B := B) (P := P) (n := n) (hn60 := hn60) (htp := htp) (hP := hP) (a := (lk_rdn P n 4 a 0).2 + 1) (ha := rfl) (ha70 := by omega) (hf := rfl) (hr := hr) (hL := by omega) (hg := hg1)) ?_
            refine lk_k3 ?_
            refine lk_cast (pc' := 101) (S' := [lk_vi 0, lk_vi (nI ((5) * (t) + 1)), lk_vr 1 17]) rfl rfl rfl ?_
            refine lk_iastN (f := 16) (i := (5) * (t) + 1) (v := 0) dX9_readsBoat_101 rfl (by decide) rfl (by omega) (by decide) ?_
            refine lk_sg (σ' := (lk_mb (lk_up (lk_up (lk_up (lk_up (lk_up (lk_up (lk_up σ 1 14 0 (nI ((lk_rdn P n 4 a 0).2))) 1 15 0 (-1)) 1 16 ((5) * (t)) ((lk_rdn P n 4 a 0).1)) 1 16 ((5) * (t) + 3) 1) 1 14 0 (nI ((lk_rdn P n 4 a 0).2 + 1))) 1 15 0 (nI (((lk_rdn P n 4 a 0).2 + 1)))) 1 16 ((5) * (t) + 1) 0) B)) (lk_bf (by decide)) ?_
            refine lk_aload_n dX9_readsBoat_102 rfl rfl ?_
            refine lk_getR (f := 16) dX9_readsBoat_103 rfl fX9_27 (by decide) (by decide) ?_
            refine lk_iload_n dX9_readsBoat_106 rfl rfl ?_
            refine lk_iconst (v := 2) dX9_readsBoat_107 (by decide) ?_
            refine lk_iaddN (a := (5) * (t)) (b := 2) dX9_readsBoat_108 ?_
            refine lk_aload_n dX9_readsBoat_109 rfl rfl ?_
            refine lk_bipush (v := 9) dX9_readsBoat_110 (by decide) ?_
            refine lk_callV (o := 1) (as := [lk_vi 9]) (S := [lk_vi (nI ((5) * (t) + 2)), lk_vr 1 17]) dX9_readsBoat_112 rfl vX9_figure rfl lX9_89 rfl rfl (Nat.le_of_ble_eq_true rfl) (tX9_figure_bad l X d (lk_up (lk_up (lk_up (lk_up (lk_up (lk_up (lk_up σ 1 14 0 (nI ((lk_rdn P n 4 a 0).2))) 1 15 0 (-1)) 1 16 ((5) * (t)) ((lk_rdn P n 4 a 0).1)) 1 16 ((5) * (t) + 3) 1) 1 14 0 (nI ((lk_rdn P n 4 a 0).2 + 1))) 1 15 0 (nI (((lk_rdn P n 4 a 0).2 + 1)))) 1 16 ((5) * (t) + 1) 0) τ (L := (9)) (B := B) (hf := nI_pos' (by omega))) ?_
            refine lk_k3 ?_
            refine lk_cast (pc' := 115) (S' := [lk_vi 0, lk_vi (nI ((5) * (t) + 2)), lk_vr 1 17]) rfl rfl rfl ?_
            refine lk_iastN (f := 16) (i := (5) * (t) + 2) (v := 0) dX9_readsBoat_115 rfl (by decide) rfl (by omega) (by decide) ?_
            refine lk_sg (σ' := (lk_mb (lk_up (lk_up (lk_up (lk_up (lk_up (lk_up (lk_up (lk_up σ 1 14 0 (nI ((lk_rdn P n 4 a 0).2))) 1 15 0 (-1)) 1 16 ((5) * (t)) ((lk_rdn P n 4 a 0).1)) 1 16 ((5) * (t) + 3) 1) 1 14 0 (nI ((lk_rdn P n 4 a 0).2 + 1))) 1 15 0 (nI (((lk_rdn P n 4 a 0).2 + 1)))) 1 16 ((5) * (t) + 1) 0) 1 16 ((5) * (t) + 2) 0) B)) (lk_bf (by decide)) ?_
            refine lk_aload_n dX9_readsBoat_116 rfl rfl ?_
            refine lk_getR (f := 16) dX9_readsBoat_117 rfl fX9_27 (by decide) (by decide) ?_
            refine lk_iload_n dX9_readsBoat_120 rfl rfl ?_
            refine lk_iconst (v := 4) dX9_readsBoat_121 (by decide) ?_
            refine lk_iaddN (a := (5) * (t)) (b := 4) dX9_readsBoat_122 ?_
            refine lk_aload_n dX9_readsBoat_123 rfl rfl ?_
            refine lk_aload_n dX9_readsBoat_124 rfl rfl ?_
            refine lk_getR (f := 0) dX9_readsBoat_125 rfl fX9_9 (by decide) (by decide) ?_
            refine lk_bipush (v := 53) dX9_readsBoat_128 (by decide) ?_
            refine lk_ialdN (f := 0) (i := 53) dX9_readsBoat_130 rfl (by decide) rfl (by omega) (by decide) ?_
            refine lk_eqtop (y := (nI (L))) ((lk_bo (by decide)).trans hml) ?_
            refine lk_callV (o := 1) (as := [lk_vi (nI (L))]) (S := [lk_vi (nI ((5) * (t) + 4)), lk_vr 1 17]) dX9_readsBoat_131 rfl vX9_figure rfl lX9_89 rfl rfl (Nat.le_of_ble_eq_true rfl) (tX9_figure_bad l X d (lk_up (lk_up (lk_up (lk_up (lk_up (lk_up (lk_up (lk_up σ 1 14 0 (nI ((lk_rdn P n 4 a 0).2))) 1 15 0 (-1)) 1 16 ((5) * (t)) ((lk_rdn P n 4 a 0).1)) 1 16 ((5) * (t) + 3) 1) 1 14 0 (nI ((lk_rdn P n 4 a 0).2 + 1))) 1 15 0 (nI (((lk_rdn P n 4 a 0).2 + 1)))) 1 16 ((5) * (t) + 1) 0) 1 16 ((5) * (t) + 2) 0) τ (L := (L)) (B := B) (hf := nI_pos' (by omega))) ?_
            refine lk_k3 ?_
            refine lk_cast (pc' := 134) (S' := [lk_vi 0, lk_vi (nI ((5) * (t) + 4)), lk_vr 1 17]) rfl rfl rfl ?_
            refine lk_iastN (f := 16) (i := (5) * (t) + 4) (v := 0) dX9_readsBoat_134 rfl (by decide) rfl (by omega) (by decide) ?_
            refine lk_sg (σ' := (lk_mb (lk_up (lk_up (lk_up (lk_up (lk_up (lk_up (lk_up (lk_up (lk_up σ 1 14 0 (nI ((lk_rdn P n 4 a 0).2))) 1 15 0 (-1)) 1 16 ((5) * (t)) ((lk_rdn P n 4 a 0).1)) 1 16 ((5) * (t) + 3) 1) 1 14 0 (nI ((lk_rdn P n 4 a 0).2 + 1))) 1 15 0 (nI (((lk_rdn P n 4 a 0).2 + 1)))) 1 16 ((5) * (t) + 1) 0) 1 16 ((5) * (t) + 2) 0) 1 16 ((5) * (t) + 4) 0) B)) (lk_bf (by decide)) ?_
            refine lk_aload_n dX9_readsBoat_135 rfl rfl ?_
            refine lk_dup dX9_readsBoat_136 rfl ?_
            refine lk_getIv (v := (nI (t))) (f := 17) dX9_readsBoat_137 rfl fX9_82 (by decide) (by decide) ((lk_bn (by decide)).trans ht) ?_
            refine lk_iconst (v := 1) dX9_readsBoat_140 (by decide) ?_
            refine lk_iaddN (a := t) (b := 1) dX9_readsBoat_141 ?_
            refine lk_putI (f := 17) dX9_readsBoat_142 rfl fX9_82 (by decide) (by decide) ?_
            refine lk_sg (σ' := (lk_mb (lk_up (lk_up (lk_up (lk_up (lk_up (lk_up (lk_up (lk_up (lk_up (lk_up σ 1 14 0 (nI ((lk_rdn P n 4 a 0).2))) 1 15 0 (-1)) 1 16 ((5) * (t)) ((lk_rdn P n 4 a 0).1)) 1 16 ((5) * (t) + 3) 1) 1 14 0 (nI ((lk_rdn P n 4 a 0).2 + 1))) 1 15 0 (nI (((lk_rdn P n 4 a 0).2 + 1)))) 1 16 ((5) * (t) + 1) 0) 1 16 ((5) * (t) + 2) 0) 1 16 ((5) * (t) + 4) 0) 1 17 0 (nI (t + 1))) B)) (lk_bf (by decide)) ?_
            refine lk_vret dX9_readsBoat_145 rfl ?_
            rw [hQ]
            have hb : lk_rdb P n a (nI L) = (false, ((lk_rdn P n 4 a 0).2 + 1)) := by
              unfold lk_rdb
              simp only [lk_eq_b] at *
              first
                | contradiction
                | ((try clear hc2)
                   (try simp only [show (nI 9 : Int32) = 9 from rfl] at *)
                   simp [*])
            exact ⟨rfl, rfl, (lk_up (lk_up (lk_up (lk_up (lk_up (lk_up (lk_up (lk_up (lk_up (lk_up σ 1 14 0 (nI ((lk_rdn P n 4 a 0).2))) 1 15 0 (-1)) 1 16 ((5) * (t)) ((lk_rdn P n 4 a 0).1)) 1 16 ((5) * (t) + 3) 1) 1 14 0 (nI ((lk_rdn P n 4 a 0).2 + 1))) 1 15 0 (nI (((lk_rdn P n 4 a 0).2 + 1)))) 1 16 ((5) * (t) + 1) 0) 1 16 ((5) * (t) + 2) 0) 1 16 ((5) * (t) + 4) 0) 1 17 0 (nI (t + 1))), rfl, (lk_fx_up (lk_fx_up (lk_fx_up (lk_fx_up (lk_fx_up (lk_fx_up (lk_fx_up (lk_fx_up (lk_fx_up (lk_fx_up (lk_fx_rf _ _) (by decide)) (by decide)) (by decide)) (by decide)) (by decide)) (by decide)) (by decide)) (by decide)) (by decide)) (by decide)), (fun h => by rw [hb] at h; cases h), (fun _ => by rw [hb]; rfl)⟩
          ·
            refine lk_callV (o := 1) (as := [lk_vi 9]) (S := [lk_vi (nI ((5) * (t) + 1)), lk_vr 1 17]) dX9_readsBoat_98 rfl vX9_figure rfl lX9_89 rfl rfl (Nat.le_of_ble_eq_true rfl) (tX9_figure_ok l X d (lk_up (lk_up (lk_up (lk_up (lk_up σ 1 14 0 (nI ((lk_rdn P n 4 a 0).2))) 1 15 0 (-1)) 1 16 ((5) * (t)) ((lk_rdn P n 4 a 0).1)) 1 16 ((5) * (t) + 3) 1) 1 14 0 (nI ((lk_rdn P n 4 a 0).2 + 1))) τ (L := (9)) (B := B) (P := P) (n := n) (hn60 := hn60) (htp := htp) (hP := hP) (a := (lk_rdn P n 4 a 0).2 + 1) (ha := rfl) (ha70 := by omega) (hf := rfl) (hr := hr) (hL := by omega) (hg := hg1)) ?_
            refine lk_k3 ?_
            refine lk_cast (pc' := 101) (S' := [lk_vi (lk_cur P n ((lk_rdn P n 4 a 0).2 + 1) - 48), lk_vi (nI ((5) * (t) + 1)), lk_vr 1 17]) rfl rfl rfl ?_
            refine lk_iastN (f := 16) (i := (5) * (t) + 1) (v := (lk_cur P n ((lk_rdn P n 4 a 0).2 + 1) - 48)) dX9_readsBoat_101 rfl (by decide) rfl (by omega) (by decide) ?_
            refine lk_sg (σ' := (lk_mb (lk_up (lk_up (lk_up (lk_up (lk_up (lk_up (lk_up σ 1 14 0 (nI ((lk_rdn P n 4 a 0).2))) 1 15 0 (-1)) 1 16 ((5) * (t)) ((lk_rdn P n 4 a 0).1)) 1 16 ((5) * (t) + 3) 1) 1 14 0 (nI ((lk_rdn P n 4 a 0).2 + 1))) 1 14 0 (nI (((lk_rdn P n 4 a 0).2 + 1) + 1))) 1 16 ((5) * (t) + 1) (lk_cur P n ((lk_rdn P n 4 a 0).2 + 1) - 48)) B)) (lk_bf (by decide)) ?_
            refine lk_aload_n dX9_readsBoat_102 rfl rfl ?_
            refine lk_getR (f := 16) dX9_readsBoat_103 rfl fX9_27 (by decide) (by decide) ?_
            refine lk_iload_n dX9_readsBoat_106 rfl rfl ?_
            refine lk_iconst (v := 2) dX9_readsBoat_107 (by decide) ?_
            refine lk_iaddN (a := (5) * (t)) (b := 2) dX9_readsBoat_108 ?_
            refine lk_aload_n dX9_readsBoat_109 rfl rfl ?_
            refine lk_bipush (v := 9) dX9_readsBoat_110 (by decide) ?_
            rcases hg2 : lk_fgo P n (((lk_rdn P n 4 a 0).2 + 1) + 1) (nI 9) with _ | _
            ·
              refine lk_callV (o := 1) (as := [lk_vi 9]) (S := [lk_vi (nI ((5) * (t) + 2)), lk_vr 1 17]) dX9_readsBoat_112 rfl vX9_figure rfl lX9_89 rfl rfl (Nat.le_of_ble_eq_true rfl) (tX9_figure_no l X d (lk_up (lk_up (lk_up (lk_up (lk_up (lk_up (lk_up σ 1 14 0 (nI ((lk_rdn P n 4 a 0).2))) 1 15 0 (-1)) 1 16 ((5) * (t)) ((lk_rdn P n 4 a 0).1)) 1 16 ((5) * (t) + 3) 1) 1 14 0 (nI ((lk_rdn P n 4 a 0).2 + 1))) 1 14 0 (nI (((lk_rdn P n 4 a 0).2 + 1) + 1))) 1 16 ((5) * (t) + 1) (lk_cur P n ((lk_rdn P n 4 a 0).2 + 1) - 48)) τ (L := (9)) (B := B) (P := P) (n := n) (hn60 := hn60) (htp := htp) (hP := hP) (a := ((lk_rdn P n 4 a 0).2 + 1) + 1) (ha := rfl) (ha70 := by omega) (hf := rfl) (hr := hr) (hL := by omega) (hg := hg2)) ?_
              refine lk_k3 ?_
              refine lk_cast (pc' := 115) (S' := [lk_vi 0, lk_vi (nI ((5) * (t) + 2)), lk_vr 1 17]) rfl rfl rfl ?_
              refine lk_iastN (f := 16) (i := (5) * (t) + 2) (v := 0) dX9_readsBoat_115 rfl (by decide) rfl (by omega) (by decide) ?_
              refine lk_sg (σ' := (lk_mb (lk_up (lk_up (lk_up (lk_up (lk_up (lk_up (lk_up (lk_up (lk_up σ 1 14 0 (nI ((lk_rdn P n 4 a 0).2))) 1 15 0 (-1)) 1 16 ((5) * (t)) ((lk_rdn P n 4 a 0).1)) 1 16 ((5) * (t) + 3) 1) 1 14 0 (nI ((lk_rdn P n 4 a 0).2 + 1))) 1 14 0 (nI (((lk_rdn P n 4 a 0).2 + 1) + 1))) 1 16 ((5) * (t) + 1) (lk_cur P n ((lk_rdn P n 4 a 0).2 + 1) - 48)) 1 15 0 (nI ((((lk_rdn P n 4 a 0).2 + 1) + 1)))) 1 16 ((5) * (t) + 2) 0) B)) (lk_bf (by decide)) ?_
              refine lk_aload_n dX9_readsBoat_116 rfl rfl ?_
              refine lk_getR (f := 16) dX9_readsBoat_117 rfl fX9_27 (by decide) (by decide) ?_
              refine lk_iload_n dX9_readsBoat_120 rfl rfl ?_
              refine lk_iconst (v := 4) dX9_readsBoat_121 (by decide) ?_
              refine lk_iaddN (a := (5) * (t)) (b := 4) dX9_readsBoat_122 ?_
              refine lk_aload_n dX9_readsBoat_123 rfl rfl ?_
              refine lk_aload_n dX9_readsBoat_124 rfl rfl ?_
              refine lk_getR (f := 0) dX9_readsBoat_125 rfl fX9_9 (by decide) (by decide) ?_
              refine lk_bipush (v := 53) dX9_readsBoat_128 (by decide) ?_
              refine lk_ialdN (f := 0) (i := 53) dX9_readsBoat_130 rfl (by decide) rfl (by omega) (by decide) ?_
              refine lk_eqtop (y := (nI (L))) ((lk_bo (by decide)).trans hml) ?_
              refine lk_callV (o := 1) (as := [lk_vi (nI (L))]) (S := [lk_vi (nI ((5) * (t) + 4)), lk_vr 1 17]) dX9_readsBoat_131 rfl vX9_figure rfl lX9_89 rfl rfl (Nat.le_of_ble_eq_true rfl) (tX9_figure_bad l X d (lk_up (lk_up (lk_up (lk_up (lk_up (lk_up (lk_up (lk_up (lk_up σ 1 14 0 (nI ((lk_rdn P n 4 a 0).2))) 1 15 0 (-1)) 1 16 ((5) * (t)) ((lk_rdn P n 4 a 0).1)) 1 16 ((5) * (t) + 3) 1) 1 14 0 (nI ((lk_rdn P n 4 a 0).2 + 1))) 1 14 0 (nI (((lk_rdn P n 4 a 0).2 + 1) + 1))) 1 16 ((5) * (t) + 1) (lk_cur P n ((lk_rdn P n 4 a 0).2 + 1) - 48)) 1 15 0 (nI ((((lk_rdn P n 4 a 0).2 + 1) + 1)))) 1 16 ((5) * (t) + 2) 0) τ (L := (L)) (B := B) (hf := nI_pos' (by omega))) ?_
              refine lk_k3 ?_
              refine lk_cast (pc' := 134) (S' := [lk_vi 0, lk_vi (nI ((5) * (t) + 4)), lk_vr 1 17]) rfl rfl rfl ?_
              refine lk_iastN (f := 16) (i := (5) * (t) + 4) (v := 0) dX9_readsBoat_134 rfl (by decide) rfl (by omega) (by decide) ?_
              refine lk_sg (σ' := (lk_mb (lk_up (lk_up (lk_up (lk_up (lk_up (lk_up (lk_up (lk_up (lk_up (lk_up σ 1 14 0 (nI ((lk_rdn P n 4 a 0).2))) 1 15 0 (-1)) 1 16 ((5) * (t)) ((lk_rdn P n 4 a 0).1)) 1 16 ((5) * (t) + 3) 1) 1 14 0 (nI ((lk_rdn P n 4 a 0).2 + 1))) 1 14 0 (nI (((lk_rdn P n 4 a 0).2 + 1) + 1))) 1 16 ((5) * (t) + 1) (lk_cur P n ((lk_rdn P n 4 a 0).2 + 1) - 48)) 1 15 0 (nI ((((lk_rdn P n 4 a 0).2 + 1) + 1)))) 1 16 ((5) * (t) + 2) 0) 1 16 ((5) * (t) + 4) 0) B)) (lk_bf (by decide)) ?_
              refine lk_aload_n dX9_readsBoat_135 rfl rfl ?_
              refine lk_dup dX9_readsBoat_136 rfl ?_
              refine lk_getIv (v := (nI (t))) (f := 17) dX9_readsBoat_137 rfl fX9_82 (by decide) (by decide) ((lk_bn (by decide)).trans ht) ?_
              refine lk_iconst (v := 1) dX9_readsBoat_140 (by decide) ?_
              refine lk_iaddN (a := t) (b := 1) dX9_readsBoat_141 ?_
              refine lk_putI (f := 17) dX9_readsBoat_142 rfl fX9_82 (by decide) (by decide) ?_
              refine lk_sg (σ' := (lk_mb (lk_up (lk_up (lk_up (lk_up (lk_up (lk_up (lk_up (lk_up (lk_up (lk_up (lk_up σ 1 14 0 (nI ((lk_rdn P n 4 a 0).2))) 1 15 0 (-1)) 1 16 ((5) * (t)) ((lk_rdn P n 4 a 0).1)) 1 16 ((5) * (t) + 3) 1) 1 14 0 (nI ((lk_rdn P n 4 a 0).2 + 1))) 1 14 0 (nI (((lk_rdn P n 4 a 0).2 + 1) + 1))) 1 16 ((5) * (t) + 1) (lk_cur P n ((lk_rdn P n 4 a 0).2 + 1) - 48)) 1 15 0 (nI ((((lk_rdn P n 4 a 0).2 + 1) + 1)))) 1 16 ((5) * (t) + 2) 0) 1 16 ((5) * (t) + 4) 0) 1 17 0 (nI (t + 1))) B)) (lk_bf (by decide)) ?_
              refine lk_vret dX9_readsBoat_145 rfl ?_
              rw [hQ]
              have hb : lk_rdb P n a (nI L) = (false, (((lk_rdn P n 4 a 0).2 + 1) + 1)) := by
                unfold lk_rdb
                simp only [lk_eq_b] at *
                first
                  | contradiction
                  | ((try clear hc2)
                     (try simp only [show (nI 9 : Int32) = 9 from rfl] at *)
                     simp [*])
              exact ⟨rfl, rfl, (lk_up (lk_up (lk_up (lk_up (lk_up (lk_up (lk_up (lk_up (lk_up (lk_up (lk_up σ 1 14 0 (nI ((lk_rdn P n 4 a 0).2))) 1 15 0 (-1)) 1 16 ((5) * (t)) ((lk_rdn P n 4 a 0).1)) 1 16 ((5) * (t) + 3) 1) 1 14 0 (nI ((lk_rdn P n 4 a 0).2 + 1))) 1 14 0 (nI (((lk_rdn P n 4 a 0).2 + 1) + 1))) 1 16 ((5) * (t) + 1) (lk_cur P n ((lk_rdn P n 4 a 0).2 + 1) - 48)) 1 15 0 (nI ((((lk_rdn P n 4 a 0).2 + 1) + 1)))) 1 16 ((5) * (t) + 2) 0) 1 16 ((5) * (t) + 4) 0) 1 17 0 (nI (t + 1))), rfl, (lk_fx_up (lk_fx_up (lk_fx_up (lk_fx_up (lk_fx_up (lk_fx_up (lk_fx_up (lk_fx_up (lk_fx_up (lk_fx_up (lk_fx_up (lk_fx_rf _ _) (by decide)) (by decide)) (by decide)) (by decide)) (by decide)) (by decide)) (by decide)) (by decide)) (by decide)) (by decide)) (by decide)), (fun h => by rw [hb] at h; cases h), (fun _ => by rw [hb]; rfl)⟩
            ·
              refine lk_callV (o := 1) (as := [lk_vi 9]) (S := [lk_vi (nI ((5) * (t) + 2)), lk_vr 1 17]) dX9_readsBoat_112 rfl vX9_figure rfl lX9_89 rfl rfl (Nat.le_of_ble_eq_true rfl) (tX9_figure_ok l X d (lk_up (lk_up (lk_up (lk_up (lk_up (lk_up (lk_up σ 1 14 0 (nI ((lk_rdn P n 4 a 0).2))) 1 15 0 (-1)) 1 16 ((5) * (t)) ((lk_rdn P n 4 a 0).1)) 1 16 ((5) * (t) + 3) 1) 1 14 0 (nI ((lk_rdn P n 4 a 0).2 + 1))) 1 14 0 (nI (((lk_rdn P n 4 a 0).2 + 1) + 1))) 1 16 ((5) * (t) + 1) (lk_cur P n ((lk_rdn P n 4 a 0).2 + 1) - 48)) τ (L := (9)) (B := B) (P := P) (n := n) (hn60 := hn60) (htp := htp) (hP := hP) (a := ((lk_rdn P n 4 a 0).2 + 1) + 1) (ha := rfl) (ha70 := by omega) (hf := rfl) (hr := hr) (hL := by omega) (hg := hg2)) ?_
              refine lk_k3 ?_
              refine lk_cast (pc' := 115) (S' := [lk_vi (lk_cur P n (((lk_rdn P n 4 a 0).2 + 1) + 1) - 48), lk_vi (nI ((5) * (t) + 2)), lk_vr 1 17]) rfl rfl rfl ?_
              refine lk_iastN (f := 16) (i := (5) * (t) + 2) (v := (lk_cur P n (((lk_rdn P n 4 a 0).2 + 1) + 1) - 48)) dX9_readsBoat_115 rfl (by decide) rfl (by omega) (by decide) ?_
              refine lk_sg (σ' := (lk_mb (lk_up (lk_up (lk_up (lk_up (lk_up (lk_up (lk_up (lk_up (lk_up σ 1 14 0 (nI ((lk_rdn P n 4 a 0).2))) 1 15 0 (-1)) 1 16 ((5) * (t)) ((lk_rdn P n 4 a 0).1)) 1 16 ((5) * (t) + 3) 1) 1 14 0 (nI ((lk_rdn P n 4 a 0).2 + 1))) 1 14 0 (nI (((lk_rdn P n 4 a 0).2 + 1) + 1))) 1 16 ((5) * (t) + 1) (lk_cur P n ((lk_rdn P n 4 a 0).2 + 1) - 48)) 1 14 0 (nI ((((lk_rdn P n 4 a 0).2 + 1) + 1) + 1))) 1 16 ((5) * (t) + 2) (lk_cur P n (((lk_rdn P n 4 a 0).2 + 1) + 1) - 48)) B)) (lk_bf (by decide)) ?_
              refine lk_aload_n dX9_readsBoat_116 rfl rfl ?_
              refine lk_getR (f := 16) dX9_readsBoat_117 rfl fX9_27 (by decide) (by decide) ?_
              refine lk_iload_n dX9_readsBoat_120 rfl rfl ?_
              refine lk_iconst (v := 4) dX9_readsBoat_121 (by decide) ?_
              refine lk_iaddN (a := (5) * (t)) (b := 4) dX9_readsBoat_122 ?_
              refine lk_aload_n dX9_readsBoat_123 rfl rfl ?_
              refine lk_aload_n dX9_readsBoat_124 rfl rfl ?_
              refine lk_getR (f := 0) dX9_readsBoat_125 rfl fX9_9 (by decide) (by decide) ?_
              refine lk_bipush (v := 53) dX9_readsBoat_128 (by decide) ?_
              refine lk_ialdN (f := 0) (i := 53) dX9_readsBoat_130 rfl (by decide) rfl (by omega) (by decide) ?_
              refine lk_eqtop (y := (nI (L))) ((lk_bo (by decide)).trans hml) ?_
              rcases hg3 : lk_fgo P n ((((lk_rdn P n 4 a 0).2 + 1) + 1) + 1) (nI L) with _ | _
              ·
                refine lk_callV (o := 1) (as := [lk_vi (nI (L))]) (S := [lk_vi (nI ((5) * (t) + 4)), lk_vr 1 17]) dX9_readsBoat_131 rfl vX9_figure rfl lX9_89 rfl rfl (Nat.le_of_ble_eq_true rfl) (tX9_figure_no l X d (lk_up (lk_up (lk_up (lk_up (lk_up (lk_up (lk_up (lk_up (lk_up σ 1 14 0 (nI ((lk_rdn P n 4 a 0).2))) 1 15 0 (-1)) 1 16 ((5) * (t)) ((lk_rdn P n 4 a 0).1)) 1 16 ((5) * (t) + 3) 1) 1 14 0 (nI ((lk_rdn P n 4 a 0).2 + 1))) 1 14 0 (nI (((lk_rdn P n 4 a 0).2 + 1) + 1))) 1 16 ((5) * (t) + 1) (lk_cur P n ((lk_rdn P n 4 a 0).2 + 1) - 48)) 1 14 0 (nI ((((lk_rdn P n 4 a 0).2 + 1) + 1) + 1))) 1 16 ((5) * (t) + 2) (lk_cur P n (((lk_rdn P n 4 a 0).2 + 1) + 1) - 48)) τ (L := (L)) (B := B) (P := P) (n := n) (hn60 := hn60) (htp := htp) (hP := hP) (a := (((lk_rdn P n 4 a 0).2 + 1) + 1) + 1) (ha := rfl) (ha70 := by omega) (hf := rfl) (hr := hr) (hL := by omega) (hg := hg3)) ?_
                refine lk_k3 ?_
                refine lk_cast (pc' := 134) (S' := [lk_vi 0, lk_vi (nI ((5) * (t) + 4)), lk_vr 1 17]) rfl rfl rfl ?_
                refine lk_iastN (f := 16) (i := (5) * (t) + 4) (v := 0) dX9_readsBoat_134 rfl (by decide) rfl (by omega) (by decide) ?_
                refine lk_sg (σ' := (lk_mb (lk_up (lk_up (lk_up (lk_up (lk_up (lk_up (lk_up (lk_up (lk_up (lk_up (lk_up σ 1 14 0 (nI ((lk_rdn P n 4 a 0).2))) 1 15 0 (-1)) 1 16 ((5) * (t)) ((lk_rdn P n 4 a 0).1)) 1 16 ((5) * (t) + 3) 1) 1 14 0 (nI ((lk_rdn P n 4 a 0).2 + 1))) 1 14 0 (nI (((lk_rdn P n 4 a 0).2 + 1) + 1))) 1 16 ((5) * (t) + 1) (lk_cur P n ((lk_rdn P n 4 a 0).2 + 1) - 48)) 1 14 0 (nI ((((lk_rdn P n 4 a 0).2 + 1) + 1) + 1))) 1 16 ((5) * (t) + 2) (lk_cur P n (((lk_rdn P n 4 a 0).2 + 1) + 1) - 48)) 1 15 0 (nI (((((lk_rdn P n 4 a 0).2 + 1) + 1) + 1)))) 1 16 ((5) * (t) + 4) 0) B)) (lk_bf (by decide)) ?_
                refine lk_aload_n dX9_readsBoat_135 rfl rfl ?_
                refine lk_dup dX9_readsBoat_136 rfl ?_
                refine lk_getIv (v := (nI (t))) (f := 17) dX9_readsBoat_137 rfl fX9_82 (by decide) (by decide) ((lk_bn (by decide)).trans ht) ?_
                refine lk_iconst (v := 1) dX9_readsBoat_140 (by decide) ?_
                refine lk_iaddN (a := t) (b := 1) dX9_readsBoat_141 ?_
                refine lk_putI (f := 17) dX9_readsBoat_142 rfl fX9_82 (by decide) (by decide) ?_
                refine lk_sg (σ' := (lk_mb (lk_up (lk_up (lk_up (lk_up (lk_up (lk_up (lk_up (lk_up (lk_up (lk_up (lk_up (lk_up σ 1 14 0 (nI ((lk_rdn P n 4 a 0).2))) 1 15 0 (-1)) 1 16 ((5) * (t)) ((lk_rdn P n 4 a 0).1)) 1 16 ((5) * (t) + 3) 1) 1 14 0 (nI ((lk_rdn P n 4 a 0).2 + 1))) 1 14 0 (nI (((lk_rdn P n 4 a 0).2 + 1) + 1))) 1 16 ((5) * (t) + 1) (lk_cur P n ((lk_rdn P n 4 a 0).2 + 1) - 48)) 1 14 0 (nI ((((lk_rdn P n 4 a 0).2 + 1) + 1) + 1))) 1 16 ((5) * (t) + 2) (lk_cur P n (((lk_rdn P n 4 a 0).2 + 1) + 1) - 48)) 1 15 0 (nI (((((lk_rdn P n 4 a 0).2 + 1) + 1) + 1)))) 1 16 ((5) * (t) + 4) 0) 1 17 0 (nI (t + 1))) B)) (lk_bf (by decide)) ?_
                refine lk_vret dX9_readsBoat_145 rfl ?_
                rw [hQ]
                have hb : lk_rdb P n a (nI L) = (false, ((((lk_rdn P n 4 a 0).2 + 1) + 1) + 1)) := by
                  unfold lk_rdb
                  simp only [lk_eq_b] at *
                  first
                    | contradiction
                    | ((try clear hc2)
                       (try simp only [show (nI 9 : Int32) = 9 from rfl] at *)
                       simp [*])
                exact ⟨rfl, rfl, (lk_up (lk_up (lk_up (lk_up (lk_up (lk_up (lk_up (lk_up (lk_up (lk_up (lk_up (lk_up σ 1 14 0 (nI ((lk_rdn P n 4 a 0).2))) 1 15 0 (-1)) 1 16 ((5) * (t)) ((lk_rdn P n 4 a 0).1)) 1 16 ((5) * (t) + 3) 1) 1 14 0 (nI ((lk_rdn P n 4 a 0).2 + 1))) 1 14 0 (nI (((lk_rdn P n 4 a 0).2 + 1) + 1))) 1 16 ((5) * (t) + 1) (lk_cur P n ((lk_rdn P n 4 a 0).2 + 1) - 48)) 1 14 0 (nI ((((lk_rdn P n 4 a 0).2 + 1) + 1) + 1))) 1 16 ((5) * (t) + 2) (lk_cur P n (((lk_rdn P n 4 a 0).2 + 1) + 1) - 48)) 1 15 0 (nI (((((lk_rdn P n 4 a 0).2 + 1) + 1) + 1)))) 1 16 ((5) * (t) + 4) 0) 1 17 0 (nI (t + 1))), rfl, (lk_fx_up (lk_fx_up (lk_fx_up (lk_fx_up (lk_fx_up (lk_fx_up (lk_fx_up (lk_fx_up (lk_fx_up (lk_fx_up (lk_fx_up (lk_fx_up (lk_fx_rf _ _) (by decide)) (by decide)) (by decide)) (by decide)) (by decide)) (by decide)) (by decide)) (by decide)) (by decide)) (by decide)) (by decide)) (by decide)), (fun h => by rw [hb] at h; cases h), (fun _ => by rw [hb]; rfl)⟩
              ·
                refine lk_callV (o := 1) (as := [lk_vi (nI (L))]) (S := [lk_vi (nI ((5) * (t) + 4)), lk_vr 1 17]) dX9_readsBoat_131 rfl vX9_figure rfl lX9_89 rfl rfl (Nat.le_of_ble_eq_true rfl) (tX9_figure_ok l X d (lk_up (lk_up (lk_up (lk_up (lk_up (lk_up (lk_up (lk_up (lk_up σ 1 14 0 (nI ((lk_rdn P n 4 a 0).2))) 1 15 0 (-1)) 1 16 ((5) * (t)) ((lk_rdn P n 4 a 0).1)) 1 16 ((5) * (t) + 3) 1) 1 14 0 (nI ((lk_rdn P n 4 a 0).2 + 1))) 1 14 0 (nI (((lk_rdn P n 4 a 0).2 + 1) + 1))) 1 16 ((5) * (t) + 1) (lk_cur P n ((lk_rdn P n 4 a 0).2 + 1) - 48)) 1 14 0 (nI ((((lk_rdn P n 4 a 0).2 + 1) + 1) + 1))) 1 16 ((5) * (t) + 2) (lk_cur P n (((lk_rdn P n 4 a 0).2 + 1) + 1) - 48)) τ (L := (L)) (B := B) (P := P) (n := n) (hn60 := hn60) (htp := htp) (hP := hP) (a := (((lk_rdn P n 4 a 0).2 + 1) + 1) + 1) (ha := rfl) (ha70 := by omega) (hf := rfl) (hr := hr) (hL := by omega) (hg := hg3)) ?_
                refine lk_k3 ?_
                refine lk_cast (pc' := 134) (S' := [lk_vi (lk_cur P n ((((lk_rdn P n 4 a 0).2 + 1) + 1) + 1) - 48), lk_vi (nI ((5) * (t) + 4)), lk_vr 1 17]) rfl rfl rfl ?_
                refine lk_iastN (f := 16) (i := (5) * (t) + 4) (v := (lk_cur P n ((((lk_rdn P n 4 a 0).2 + 1) + 1) + 1) - 48)) dX9_readsBoat_134 rfl (by decide) rfl (by omega) (by decide) ?_
                refine lk_sg (σ' := (lk_mb (lk_up (lk_up (lk_up (lk_up (lk_up (lk_up (lk_up (lk_up (lk_up (lk_up (lk_up σ 1 14 0 (nI ((lk_rdn P n 4 a 0).2))) 1 15 0 (-1)) 1 16 ((5) * (t)) ((lk_rdn P n 4 a 0).1)) 1 16 ((5) * (t) + 3) 1) 1 14 0 (nI ((lk_rdn P n 4 a 0).2 + 1))) 1 14 0 (nI (((lk_rdn P n 4 a 0).2 + 1) + 1))) 1 16 ((5) * (t) + 1) (lk_cur P n ((lk_rdn P n 4 a 0).2 + 1) - 48)) 1 14 0 (nI ((((lk_rdn P n 4 a 0).2 + 1) + 1) + 1))) 1 16 ((5) * (t) + 2) (lk_cur P n (((lk_rdn P n 4 a 0).2 + 1) + 1) - 48)) 1 14 0 (nI (((((lk_rdn P n 4 a 0).2 + 1) + 1) + 1) + 1))) 1 16 ((5) * (t) + 4) (lk_cur P n ((((lk_rdn P n 4 a 0).2 + 1) + 1) + 1) - 48)) B)) (lk_bf (by decide)) ?_
                refine lk_aload_n dX9_readsBoat_135 rfl rfl ?_
                refine lk_dup dX9_readsBoat_136 rfl ?_
                refine lk_getIv (v := (nI (t))) (f := 17) dX9_readsBoat_137 rfl fX9_82 (by decide) (by decide) ((lk_bn (by decide)).trans ht) ?_
                refine lk_iconst (v := 1) dX9_readsBoat_140 (by decide) ?_
                refine lk_iaddN (a := t) (b := 1) dX9_readsBoat_141 ?_
                refine lk_putI (f := 17) dX9_readsBoat_142 rfl fX9_82 (by decide) (by decide) ?_
                refine lk_sg (σ' := (lk_mb (lk_up (lk_up (lk_up (lk_up (lk_up (lk_up (lk_up (lk_up (lk_up (lk_up (lk_up (lk_up σ 1 14 0 (nI ((lk_rdn P n 4 a 0).2))) 1 15 0 (-1)) 1 16 ((5) * (t)) ((lk_rdn P n 4 a 0).1)) 1 16 ((5) * (t) + 3) 1) 1 14 0 (nI ((lk_rdn P n 4 a 0).2 + 1))) 1 14 0 (nI (((lk_rdn P n 4 a 0).2 + 1) + 1))) 1 16 ((5) * (t) + 1) (lk_cur P n ((lk_rdn P n 4 a 0).2 + 1) - 48)) 1 14 0 (nI ((((lk_rdn P n 4 a 0).2 + 1) + 1) + 1))) 1 16 ((5) * (t) + 2) (lk_cur P n (((lk_rdn P n 4 a 0).2 + 1) + 1) - 48)) 1 14 0 (nI (((((lk_rdn P n 4 a 0).2 + 1) + 1) + 1) + 1))) 1 16 ((5) * (t) + 4) (lk_cur P n ((((lk_rdn P n 4 a 0).2 + 1) + 1) + 1) - 48)) 1 17 0 (nI (t + 1))) B)) (lk_bf (by decide)) ?_
                refine lk_vret dX9_readsBoat_145 rfl ?_
                rw [hQ]
                have hb : lk_rdb P n a (nI L) = (true, (lk_rdn P n 4 a 0).2 + 1 + 1 + 1 + 1) := by
                  unfold lk_rdb
                  simp only [lk_eq_b] at *
                  first
                    | contradiction
                    | ((try clear hc2)
                       (try simp only [show (nI 9 : Int32) = 9 from rfl] at *)
                       simp [*])
                refine ⟨rfl, rfl, (lk_up (lk_up (lk_up (lk_up (lk_up (lk_up (lk_up (lk_up (lk_up (lk_up (lk_up (lk_up σ 1 14 0 (nI ((lk_rdn P n 4 a 0).2))) 1 15 0 (-1)) 1 16 ((5) * (t)) ((lk_rdn P n 4 a 0).1)) 1 16 ((5) * (t) + 3) 1) 1 14 0 (nI ((lk_rdn P n 4 a 0).2 + 1))) 1 14 0 (nI (((lk_rdn P n 4 a 0).2 + 1) + 1))) 1 16 ((5) * (t) + 1) (lk_cur P n ((lk_rdn P n 4 a 0).2 + 1) - 48)) 1 14 0 (nI ((((lk_rdn P n 4 a 0).2 + 1) + 1) + 1))) 1 16 ((5) * (t) + 2) (lk_cur P n (((lk_rdn P n 4 a 0).2 + 1) + 1) - 48)) 1 14 0 (nI (((((lk_rdn P n 4 a 0).2 + 1) + 1) + 1) + 1))) 1 16 ((5) * (t) + 4) (lk_cur P n ((((lk_rdn P n 4 a 0).2 + 1) + 1) + 1) - 48)) 1 17 0 (nI (t + 1))), rfl, (lk_fx_up (lk_fx_up (lk_fx_up (lk_fx_up (lk_fx_up (lk_fx_up (lk_fx_up (lk_fx_up (lk_fx_up (lk_fx_up (lk_fx_up (lk_fx_up (lk_fx_rf _ _) (by decide)) (by decide)) (by decide)) (by decide)) (by decide)) (by decide)) (by decide)) (by decide)) (by decide)) (by decide)) (by decide)) (by decide)), fun _ => ⟨by rw [hb]; rfl, rfl, rfl, fun f hf5 => ?_, fun x hx => ?_⟩, (fun h => by rw [hb] at h; cases h)⟩
                · rcases (show f = 0 ∨ f = 1 ∨ f = 2 ∨ f = 3 ∨ f = 4 by omega) with rfl | rfl | rfl | rfl | rfl
                  · simp [lk_up, lk_rdw]
                  · simp [lk_up, lk_rdw]
                  · simp [lk_up, lk_rdw]
                  · simp only [lk_up, lk_rdw]
                    simp [hs3]
                  · simp [lk_up, lk_rdw]
                · simp only [lk_up]
                  simp
                  rw [if_neg (by omega), if_neg (by omega), if_neg (by omega), if_neg (by omega), if_neg (by omega)]
      ·
        refine lk_aload_n dX9_readsBoat_39 rfl rfl ?_
        refine lk_callV (o := 1) (as := []) (S := []) dX9_readsBoat_40 rfl vX9_wrong rfl lX9_79 rfl rfl (Nat.le_of_ble_eq_true rfl) (tX9_wrong_ok l X (d + 2) (lk_up (lk_up (lk_up σ 1 14 0 (nI ((lk_rdn P n 4 a 0).2))) 1 15 0 (-1)) 1 16 ((5) * (t)) ((lk_rdn P n 4 a 0).1)) τ (B := B) (a := (lk_rdn P n 4 a 0).2) (ha := rfl) (hf := rfl)) ?_
        refine lk_k3 ?_
        refine lk_cast (pc' := 43) (S' := []) rfl rfl rfl ?_
        refine lk_aload_n dX9_readsBoat_43 rfl rfl ?_
        refine lk_getIv (v := (nI ((lk_rdn P n 4 a 0).2))) (f := 15) dX9_readsBoat_44 rfl fX9_69 (by decide) (by decide) ((lk_bn (by decide)).trans rfl) ?_
        refine lk_if_ltN (a := (lk_rdn P n 4 a 0).2) (tgt := 51) dX9_readsBoat_47 (by decide) (by omega) (fun hh10 => absurd hh10 (by omega)) (fun hh10 => ?_)
        refine lk_vret dX9_readsBoat_50 rfl ?_
        rw [hQ]
        have hb : lk_rdb P n a (nI L) = (false, (lk_rdn P n 4 a 0).2) := by
          unfold lk_rdb
          simp only [lk_eq_b] at *
          first
            | contradiction
            | ((try clear hc2)
               (try simp only [show (nI 9 : Int32) = 9 from rfl] at *)
               simp [*])
        exact ⟨rfl, rfl, (lk_up (lk_up (lk_up (lk_up σ 1 14 0 (nI ((lk_rdn P n 4 a 0).2))) 1 15 0 (-1)) 1 16 ((5) * (t)) ((lk_rdn P n 4 a 0).1)) 1 15 0 (nI ((lk_rdn P n 4 a 0).2))), rfl, (lk_fx_up (lk_fx_up (lk_fx_up (lk_fx_up (lk_fx_rf _ _) (by decide)) (by decide)) (by decide)) (by decide)), (fun h => by rw [hb] at h; cases h), (fun _ => by rw [hb]; rfl)⟩
