theorem lk_up_up (σ : lk_N) (o f i : Nat) (v w : Int32) : lk_up (lk_up σ o f i v) o f i w = lk_up σ o f i w := by
  funext a b c
  simp only [lk_up]
  grind
theorem lk_up_self (σ : lk_N) (o f i : Nat) : lk_up σ o f i (σ o f i) = σ := by
  funext a b c
  simp only [lk_up]
  grind
/-- the byte at a, of n; -1 behind them -/
def lk_cur (P : lk_O) (n a : Nat) : Int32 := if a < n then P 0 a else -1
/-- m letters more of a name, from a on, v read: the number, the place behind it -/
def lk_rdn (P : lk_O) (n : Nat) : Nat → Nat → Int32 → Int32 × Nat
  | 0, a, v => (v, a)
  | m + 1, a, v => if 97 ≤ lk_cur P n a ∧ lk_cur P n a ≤ 122 then lk_rdn P n m (a + 1) (v * 27 + (lk_cur P n a - 97 + 1)) else lk_rdn P n m a (v * 27 + 0)
set_option maxHeartbeats 1000000 in
set_option maxRecDepth 100000 in
theorem tX6_current (l : Launch) (X : lk_G) (d : Nat) (σ : lk_N) (τ : lk_T) (t : Nat) (ht : lk_ko t = 6) (n a : Nat) (hn : σ t 1 0 = nI n) (hn60 : n ≤ 60) (ha : σ t 2 0 = nI a) (ha64 : a ≤ 70) : lk_Mt l X mX6_current d [lk_vr t 0] σ τ (fun rr σ1 τ1 => rr = some (lk_vi (lk_cur (σ t) n a)) ∧ σ1 = σ ∧ τ1 = τ) := by
  refine lk_met (L := [(0, lk_vr t 0)]) (by decide +kernel) (Nat.le_of_ble_eq_true rfl) rfl ?_
  obtain ⟨Q, hQ⟩ : ∃ Q : lk_Q, Q = fun rr σ1 τ1 => rr = some (lk_vi (lk_cur (σ t) n a)) ∧ σ1 = σ ∧ τ1 = τ := ⟨_, rfl⟩
  rw [← hQ]
  refine lk_aload_n dX6_current_0 rfl rfl ?_
  refine lk_getIv (v := nI (a)) (f := 2) dX6_current_1 ht fX6_17 (by decide) (by decide) ha ?_
  refine lk_aload_n dX6_current_4 rfl rfl ?_
  refine lk_getIv (v := nI (n)) (f := 1) dX6_current_5 ht fX6_13 (by decide) (by decide) hn ?_
  refine lk_icmp_geN (a := a) (b := n) (tgt := 23) dX6_current_8 (by decide) (by omega) (by omega) (fun hh1 => ?_) (fun hh1 => ?_)
  ·
    refine lk_iconst (v := (-1)) dX6_current_23 (by decide) ?_
    refine lk_iret .int dX6_current_24 rfl rfl ?_
    rw [hQ]
    refine ⟨?_, rfl, rfl⟩
    unfold lk_cur
    first | rw [if_pos (by omega)] | rw [if_neg (by omega)]
  ·
    refine lk_aload_n dX6_current_11 rfl rfl ?_
    refine lk_getR (f := 0) dX6_current_12 ht fX6_9 (by decide) (by decide) ?_
    refine lk_aload_n dX6_current_15 rfl rfl ?_
    refine lk_getIv (v := nI (a)) (f := 2) dX6_current_16 ht fX6_17 (by decide) (by decide) ha ?_
    refine lk_ialdN (f := 0) (i := a) dX6_current_19 ht (by decide) rfl (by omega) (by decide) ?_
    refine lk_goto (tgt := 24) dX6_current_20 (by decide) ?_
    refine lk_iret .int dX6_current_24 rfl rfl ?_
    rw [hQ]
    refine ⟨?_, rfl, rfl⟩
    unfold lk_cur
    first | rw [if_pos (by omega)] | rw [if_neg (by omega)]

set_option maxHeartbeats 1000000 in
set_option maxRecDepth 100000 in
theorem tX6_isAtEnd (l : Launch) (X : lk_G) (d : Nat) (σ : lk_N) (τ : lk_T) (t : Nat) (ht : lk_ko t = 6) (n a : Nat) (hn : σ t 1 0 = nI n) (hn60 : n ≤ 60) (ha : σ t 2 0 = nI a) (ha64 : a ≤ 70) : lk_Mt l X mX6_isAtEnd d [lk_vr t 0] σ τ (fun rr σ1 τ1 => rr = some (lk_vi (if n ≤ a then 1 else 0)) ∧ σ1 = σ ∧ τ1 = τ) := by
  refine lk_met (L := [(0, lk_vr t 0)]) (by decide +kernel) (Nat.le_of_ble_eq_true rfl) rfl ?_
  obtain ⟨Q, hQ⟩ : ∃ Q : lk_Q, Q = fun rr σ1 τ1 => rr = some (lk_vi (if n ≤ a then 1 else 0)) ∧ σ1 = σ ∧ τ1 = τ := ⟨_, rfl⟩
  rw [← hQ]
  refine lk_aload_n dX6_isAtEnd_0 rfl rfl ?_
  refine lk_getIv (v := nI (a)) (f := 2) dX6_isAtEnd_1 ht fX6_17 (by decide) (by decide) ha ?_
  refine lk_aload_n dX6_isAtEnd_4 rfl rfl ?_
  refine lk_getIv (v := nI (n)) (f := 1) dX6_isAtEnd_5 ht fX6_13 (by decide) (by decide) hn ?_
  refine lk_icmp_ltN (a := a) (b := n) (tgt := 15) dX6_isAtEnd_8 (by decide) (by omega) (by omega) (fun hh1 => ?_) (fun hh1 => ?_)
  ·
    refine lk_iconst (v := 0) dX6_isAtEnd_15 (by decide) ?_
    refine lk_iret .boolean dX6_isAtEnd_16 rfl rfl ?_
    rw [hQ]
    refine ⟨?_, rfl, rfl⟩
    first | rw [if_pos (by omega)] | rw [if_neg (by omega)]
  ·
    refine lk_iconst (v := 1) dX6_isAtEnd_11 (by decide) ?_
    refine lk_goto (tgt := 16) dX6_isAtEnd_12 (by decide) ?_
    refine lk_iret .boolean dX6_isAtEnd_16 rfl rfl ?_
    rw [hQ]
    refine ⟨?_, rfl, rfl⟩
    first | rw [if_pos (by omega)] | rw [if_neg (by omega)]

set_option maxHeartbeats 1000000 in
set_option maxRecDepth 100000 in
theorem tX6_append_ok (l : Launch) (X : lk_G) (d : Nat) (σ : lk_N) (τ : lk_T) (t : Nat) (ht : lk_ko t = 6) (n : Nat) (x : Int32) (hn : σ t 1 0 = nI n) (hn60 : n < 60) : lk_Mt l X mX6_append d [lk_vr t 0, lk_vi (x)] σ τ (fun rr σ1 τ1 => rr = some (lk_vi 1) ∧ σ1 = lk_so σ t (lk_ou (lk_ou (σ t) 0 n x) 1 0 (nI (n + 1))) ∧ τ1 = τ) := by
  refine lk_met (L := [(0, lk_vr t 0), (1, lk_vi (x))]) (by decide +kernel) (Nat.le_of_ble_eq_true rfl) rfl ?_
  obtain ⟨Q, hQ⟩ : ∃ Q : lk_Q, Q = fun rr σ1 τ1 => rr = some (lk_vi 1) ∧ σ1 = lk_so σ t (lk_ou (lk_ou (σ t) 0 n x) 1 0 (nI (n + 1))) ∧ τ1 = τ := ⟨_, rfl⟩
  rw [← hQ]
  refine lk_aload_n dX6_append_0 rfl rfl ?_
  refine lk_getIv (v := nI (n)) (f := 1) dX6_append_1 ht fX6_13 (by decide) (by decide) (by simp [lk_up, hn]) ?_
  refine lk_bipush (v := 60) dX6_append_4 (by decide) ?_
  refine lk_icmp_ltN (a := n) (b := 60) (tgt := 11) dX6_append_6 (by decide) (by omega) (by omega) (fun hh1 => ?_) (fun hh1 => absurd hh1 (by omega))
  refine lk_aload_n dX6_append_11 rfl rfl ?_
  refine lk_getR (f := 0) dX6_append_12 ht fX6_9 (by decide) (by decide) ?_
  refine lk_aload_n dX6_append_15 rfl rfl ?_
  refine lk_getIv (v := nI (n)) (f := 1) dX6_append_16 ht fX6_13 (by decide) (by decide) (by simp [lk_up, hn]) ?_
  refine lk_iload_n dX6_append_19 rfl rfl ?_
  refine lk_iastN (f := 0) (i := n) (v := (x)) dX6_append_20 ht (by decide) rfl (by omega) (by decide) ?_
  refine lk_aload_n dX6_append_21 rfl rfl ?_
  refine lk_dup dX6_append_22 rfl ?_
  refine lk_getIv (v := nI (n)) (f := 1) dX6_append_23 ht fX6_13 (by decide) (by decide) (by simp [lk_up, hn]) ?_
  refine lk_iconst (v := 1) dX6_append_26 (by decide) ?_
  refine lk_iaddN (a := n) (b := 1) dX6_append_27 ?_
  refine lk_putI (f := 1) dX6_append_28 ht fX6_13 (by decide) (by decide) ?_
  refine lk_iconst (v := 1) dX6_append_31 (by decide) ?_
  refine lk_iret .boolean dX6_append_32 rfl rfl ?_
  rw [hQ]
  refine ⟨rfl, ?_, rfl⟩
  simp only [lk_up_so, lk_so_so, lk_so_eq]

set_option maxHeartbeats 1000000 in
set_option maxRecDepth 100000 in
theorem tX6_append_no (l : Launch) (X : lk_G) (d : Nat) (σ : lk_N) (τ : lk_T) (t : Nat) (ht : lk_ko t = 6) (x : Int32) (hn : σ t 1 0 = nI 60) : lk_Mt l X mX6_append d [lk_vr t 0, lk_vi (x)] σ τ (fun rr σ1 τ1 => rr = some (lk_vi 0) ∧ σ1 = σ ∧ τ1 = τ) := by
  refine lk_met (L := [(0, lk_vr t 0), (1, lk_vi (x))]) (by decide +kernel) (Nat.le_of_ble_eq_true rfl) rfl ?_
  obtain ⟨Q, hQ⟩ : ∃ Q : lk_Q, Q = fun rr σ1 τ1 => rr = some (lk_vi 0) ∧ σ1 = σ ∧ τ1 = τ := ⟨_, rfl⟩
  rw [← hQ]
  refine lk_aload_n dX6_append_0 rfl rfl ?_
  refine lk_getIv (v := 60) (f := 1) dX6_append_1 ht fX6_13 (by decide) (by decide) hn ?_
  refine lk_bipush (v := 60) dX6_append_4 (by decide) ?_
  refine lk_icmp_ltN (a := 60) (b := 60) (tgt := 11) dX6_append_6 (by decide) (by omega) (by omega) (fun hh1 => absurd hh1 (by decide)) (fun hh1 => ?_)
  refine lk_iconst (v := 0) dX6_append_9 (by decide) ?_
  refine lk_iret .boolean dX6_append_10 rfl rfl ?_
  rw [hQ]
  exact ⟨by first | rfl | (simp [*]; done) | (simp_all; done) | grind, by first | rfl | (simp [*]; done), rfl⟩

set_option maxHeartbeats 1000000 in
set_option maxRecDepth 100000 in
theorem tX6_readComma_ok (l : Launch) (X : lk_G) (d : Nat) (σ : lk_N) (τ : lk_T) (t : Nat) (ht : lk_ko t = 6) (n a : Nat) (hn : σ t 1 0 = nI n) (hn60 : n ≤ 60) (ha : σ t 2 0 = nI a) (ha64 : a ≤ 70) (h : lk_cur (σ t) n a = 44) : lk_Mt l X mX6_readComma (d + 1) [lk_vr t 0] σ τ (fun rr σ1 τ1 => rr = some (lk_vi 1) ∧ σ1 = lk_up σ t 2 0 (nI (a + 1)) ∧ τ1 = τ) := by
  refine lk_met (L := [(0, lk_vr t 0)]) (by decide +kernel) (Nat.le_of_ble_eq_true rfl) rfl ?_
  obtain ⟨Q, hQ⟩ : ∃ Q : lk_Q, Q = fun rr σ1 τ1 => rr = some (lk_vi 1) ∧ σ1 = lk_up σ t 2 0 (nI (a + 1)) ∧ τ1 = τ := ⟨_, rfl⟩
  rw [← hQ]
  refine lk_aload_n dX6_readComma_0 rfl rfl ?_
  refine lk_callV (o := t) (as := []) (S := []) dX6_readComma_1 rfl vX6_current rfl lX6_44 ht rfl (Nat.le_of_ble_eq_true rfl) (tX6_current l X d σ τ (t := t) (ht := ht) (n := n) (a := a) (hn := hn) (hn60 := hn60) (ha := ha) (ha64 := ha64)) ?_
  refine lk_k3 ?_
  refine lk_cast (pc' := 4) (S' := [lk_vi (lk_cur (σ t) n a)]) rfl rfl rfl ?_
  refine lk_bipush (v := 44) dX6_readComma_4 (by decide) ?_
  refine lk_icmp_eq (tgt := 11) dX6_readComma_6 (by decide) (fun hh1 => ?_) (fun hh1 => absurd hh1 (by intro q; exact q h))
  refine lk_aload_n dX6_readComma_11 rfl rfl ?_
  refine lk_dup dX6_readComma_12 rfl ?_
  refine lk_getIv (v := nI (a)) (f := 2) dX6_readComma_13 ht fX6_17 (by decide) (by decide) ha ?_
  refine lk_iconst (v := 1) dX6_readComma_16 (by decide) ?_
  refine lk_iaddN (a := a) (b := 1) dX6_readComma_17 ?_
  refine lk_putI (f := 2) dX6_readComma_18 ht fX6_17 (by decide) (by decide) ?_
  refine lk_iconst (v := 1) dX6_readComma_21 (by decide) ?_
  refine lk_iret .boolean dX6_readComma_22 rfl rfl ?_
  rw [hQ]
  exact ⟨by first | rfl | (simp [*]; done) | (simp_all; done) | grind, by first | rfl | (simp [*]; done), rfl⟩

set_option maxHeartbeats 1000000 in
set_option maxRecDepth 100000 in
theorem tX6_readComma_no (l : Launch) (X : lk_G) (d : Nat) (σ : lk_N) (τ : lk_T) (t : Nat) (ht : lk_ko t = 6) (n a : Nat) (hn : σ t 1 0 = nI n) (hn60 : n ≤ 60) (ha : σ t 2 0 = nI a) (ha64 : a ≤ 70) (h : ¬ lk_cur (σ t) n a = 44) : lk_Mt l X mX6_readComma (d + 1) [lk_vr t 0] σ τ (fun rr σ1 τ1 => rr = some (lk_vi 0) ∧ σ1 = σ ∧ τ1 = τ) := by
  refine lk_met (L := [(0, lk_vr t 0)]) (by decide +kernel) (Nat.le_of_ble_eq_true rfl) rfl ?_
  obtain ⟨Q, hQ⟩ : ∃ Q : lk_Q, Q = fun rr σ1 τ1 => rr = some (lk_vi 0) ∧ σ1 = σ ∧ τ1 = τ := ⟨_, rfl⟩
  rw [← hQ]
  refine lk_aload_n dX6_readComma_0 rfl rfl ?_
  refine lk_callV (o := t) (as := []) (S := []) dX6_readComma_1 rfl vX6_current rfl lX6_44 ht rfl (Nat.le_of_ble_eq_true rfl) (tX6_current l X d σ τ (t := t) (ht := ht) (n := n) (a := a) (hn := hn) (hn60 := hn60) (ha := ha) (ha64 := ha64)) ?_
  refine lk_k3 ?_
  refine lk_cast (pc' := 4) (S' := [lk_vi (lk_cur (σ t) n a)]) rfl rfl rfl ?_
  refine lk_bipush (v := 44) dX6_readComma_4 (by decide) ?_
  refine lk_icmp_eq (tgt := 11) dX6_readComma_6 (by decide) (fun hh1 => absurd hh1 h) (fun hh1 => ?_)
  refine lk_iconst (v := 0) dX6_readComma_9 (by decide) ?_
  refine lk_iret .boolean dX6_readComma_10 rfl rfl ?_
  rw [hQ]
  exact ⟨by first | rfl | (simp [*]; done) | (simp_all; done) | grind, by first | rfl | (simp [*]; done), rfl⟩

set_option maxHeartbeats 1000000 in
set_option maxRecDepth 100000 in
theorem tX6_readFigure_ok (l : Launch) (X : lk_G) (d : Nat) (σ : lk_N) (τ : lk_T) (t : Nat) (ht : lk_ko t = 6) (n a : Nat) (hn : σ t 1 0 = nI n) (hn60 : n ≤ 60) (ha : σ t 2 0 = nI a) (ha64 : a ≤ 70) (m : Int32) (h : ¬ lk_cur (σ t) n a - 48 < 0) (h2 : lk_cur (σ t) n a - 48 ≤ m) : lk_Mt l X mX6_readFigure (d + 1) [lk_vr t 0, lk_vi (m)] σ τ (fun rr σ1 τ1 => rr = some (lk_vi (lk_cur (σ t) n a - 48)) ∧ σ1 = lk_up σ t 2 0 (nI (a + 1)) ∧ τ1 = τ) := by
  refine lk_met (L := [(0, lk_vr t 0), (1, lk_vi (m))]) (by decide +kernel) (Nat.le_of_ble_eq_true rfl) rfl ?_
  obtain ⟨Q, hQ⟩ : ∃ Q : lk_Q, Q = fun rr σ1 τ1 => rr = some (lk_vi (lk_cur (σ t) n a - 48)) ∧ σ1 = lk_up σ t 2 0 (nI (a + 1)) ∧ τ1 = τ := ⟨_, rfl⟩
  rw [← hQ]
  refine lk_aload_n dX6_readFigure_0 rfl rfl ?_
  refine lk_callV (o := t) (as := []) (S := []) dX6_readFigure_1 rfl vX6_current rfl lX6_44 ht rfl (Nat.le_of_ble_eq_true rfl) (tX6_current l X d σ τ (t := t) (ht := ht) (n := n) (a := a) (hn := hn) (hn60 := hn60) (ha := ha) (ha64 := ha64)) ?_
  refine lk_k3 ?_
  refine lk_cast (pc' := 4) (S' := [lk_vi (lk_cur (σ t) n a)]) rfl rfl rfl ?_
  refine lk_bipush (v := 48) dX6_readFigure_4 (by decide) ?_
  refine lk_isub dX6_readFigure_6 ?_
  refine lk_istore_n (L' := [(0, lk_vr t 0), (1, lk_vi (m)), (2, lk_vi ((lk_cur (σ t) n a) - 48))]) dX6_readFigure_7 rfl (by decide +kernel) rfl ?_
  refine lk_iload_n dX6_readFigure_8 rfl rfl ?_
  refine lk_if_lt (tgt := 17) dX6_readFigure_9 (by decide) (fun hh1 => absurd hh1 h) (fun hh1 => ?_)
  refine lk_iload_n dX6_readFigure_12 rfl rfl ?_
  refine lk_iload_n dX6_readFigure_13 rfl rfl ?_
  refine lk_icmp_le (tgt := 19) dX6_readFigure_14 (by decide) (fun hh2 => ?_) (fun hh2 => absurd hh2 (by intro q; exact q h2))
  refine lk_aload_n dX6_readFigure_19 rfl rfl ?_
  refine lk_dup dX6_readFigure_20 rfl ?_
  refine lk_getIv (v := nI (a)) (f := 2) dX6_readFigure_21 ht fX6_17 (by decide) (by decide) ha ?_
  refine lk_iconst (v := 1) dX6_readFigure_24 (by decide) ?_
  refine lk_iaddN (a := a) (b := 1) dX6_readFigure_25 ?_
  refine lk_putI (f := 2) dX6_readFigure_26 ht fX6_17 (by decide) (by decide) ?_
  refine lk_iload_n dX6_readFigure_29 rfl rfl ?_
  refine lk_iret .int dX6_readFigure_30 rfl rfl ?_
  rw [hQ]
  exact ⟨by first | rfl | (simp [*]; done) | (simp_all; done) | grind, by first | rfl | (simp [*]; done), rfl⟩

set_option maxHeartbeats 1000000 in
set_option maxRecDepth 100000 in
theorem tX6_readFigure_no (l : Launch) (X : lk_G) (d : Nat) (σ : lk_N) (τ : lk_T) (t : Nat) (ht : lk_ko t = 6) (n a : Nat) (hn : σ t 1 0 = nI n) (hn60 : n ≤ 60) (ha : σ t 2 0 = nI a) (ha64 : a ≤ 70) (m : Int32) (h : lk_cur (σ t) n a - 48 < 0 ∨ ¬ lk_cur (σ t) n a - 48 ≤ m) : lk_Mt l X mX6_readFigure (d + 1) [lk_vr t 0, lk_vi (m)] σ τ (fun rr σ1 τ1 => rr = some (lk_vi (-1)) ∧ σ1 = σ ∧ τ1 = τ) := by
  refine lk_met (L := [(0, lk_vr t 0), (1, lk_vi (m))]) (by decide +kernel) (Nat.le_of_ble_eq_true rfl) rfl ?_
  obtain ⟨Q, hQ⟩ : ∃ Q : lk_Q, Q = fun rr σ1 τ1 => rr = some (lk_vi (-1)) ∧ σ1 = σ ∧ τ1 = τ := ⟨_, rfl⟩
  rw [← hQ]
  refine lk_aload_n dX6_readFigure_0 rfl rfl ?_
  refine lk_callV (o := t) (as := []) (S := []) dX6_readFigure_1 rfl vX6_current rfl lX6_44 ht rfl (Nat.le_of_ble_eq_true rfl) (tX6_current l X d σ τ (t := t) (ht := ht) (n := n) (a := a) (hn := hn) (hn60 := hn60) (ha := ha) (ha64 := ha64)) ?_
  refine lk_k3 ?_
  refine lk_cast (pc' := 4) (S' := [lk_vi (lk_cur (σ t) n a)]) rfl rfl rfl ?_
  refine lk_bipush (v := 48) dX6_readFigure_4 (by decide) ?_
  refine lk_isub dX6_readFigure_6 ?_
  refine lk_istore_n (L' := [(0, lk_vr t 0), (1, lk_vi (m)), (2, lk_vi ((lk_cur (σ t) n a) - 48))]) dX6_readFigure_7 rfl (by decide +kernel) rfl ?_
  refine lk_iload_n dX6_readFigure_8 rfl rfl ?_
  refine lk_if_lt (tgt := 17) dX6_readFigure_9 (by decide) (fun hh1 => ?_) (fun hh1 => ?_)
  ·
    refine lk_iconst (v := (-1)) dX6_readFigure_17 (by decide) ?_
    refine lk_iret .int dX6_readFigure_18 rfl rfl ?_
    rw [hQ]
    first | exact ⟨rfl, rfl, rfl⟩ | (exfalso; rcases h with h | h <;> contradiction)
  ·
    refine lk_iload_n dX6_readFigure_12 rfl rfl ?_
    refine lk_iload_n dX6_readFigure_13 rfl rfl ?_
    refine lk_icmp_le (tgt := 19) dX6_readFigure_14 (by decide) (fun hh2 => ?_) (fun hh2 => ?_)
    ·
      refine lk_aload_n dX6_readFigure_19 rfl rfl ?_
      refine lk_dup dX6_readFigure_20 rfl ?_
      refine lk_getIv (v := nI (a)) (f := 2) dX6_readFigure_21 ht fX6_17 (by decide) (by decide) ha ?_
      refine lk_iconst (v := 1) dX6_readFigure_24 (by decide) ?_
      refine lk_iaddN (a := a) (b := 1) dX6_readFigure_25 ?_
      refine lk_putI (f := 2) dX6_readFigure_26 ht fX6_17 (by decide) (by decide) ?_
      refine lk_iload_n dX6_readFigure_29 rfl rfl ?_
      refine lk_iret .int dX6_readFigure_30 rfl rfl ?_
      rw [hQ]
      first | exact ⟨rfl, rfl, rfl⟩ | (exfalso; rcases h with h | h <;> contradiction)
    ·
      refine lk_iconst (v := (-1)) dX6_readFigure_17 (by decide) ?_
      refine lk_iret .int dX6_readFigure_18 rfl rfl ?_
      rw [hQ]
      first | exact ⟨rfl, rfl, rfl⟩ | (exfalso; rcases h with h | h <;> contradiction)

set_option maxHeartbeats 1000000 in
set_option maxRecDepth 100000 in
theorem tX6_readWay_p (l : Launch) (X : lk_G) (d : Nat) (σ : lk_N) (τ : lk_T) (t : Nat) (ht : lk_ko t = 6) (n a : Nat) (hn : σ t 1 0 = nI n) (hn60 : n ≤ 60) (ha : σ t 2 0 = nI a) (ha64 : a ≤ 70) (h : lk_cur (σ t) n a = 43) : lk_Mt l X mX6_readWay (d + 1) [lk_vr t 0] σ τ (fun rr σ1 τ1 => rr = some (lk_vi 1) ∧ σ1 = lk_up (lk_up σ t 4 0 1) t 2 0 (nI (a + 1)) ∧ τ1 = τ) := by
  refine lk_met (L := [(0, lk_vr t 0)]) (by decide +kernel) (Nat.le_of_ble_eq_true rfl) rfl ?_
  obtain ⟨Q, hQ⟩ : ∃ Q : lk_Q, Q = fun rr σ1 τ1 => rr = some (lk_vi 1) ∧ σ1 = lk_up (lk_up σ t 4 0 1) t 2 0 (nI (a + 1)) ∧ τ1 = τ := ⟨_, rfl⟩
  rw [← hQ]
  refine lk_aload_n dX6_readWay_0 rfl rfl ?_
  refine lk_callV (o := t) (as := []) (S := []) dX6_readWay_1 rfl vX6_current rfl lX6_44 ht rfl (Nat.le_of_ble_eq_true rfl) (tX6_current l X d σ τ (t := t) (ht := ht) (n := n) (a := a) (hn := hn) (hn60 := hn60) (ha := ha) (ha64 := ha64)) ?_
  refine lk_k3 ?_
  refine lk_cast (pc' := 4) (S' := [lk_vi (lk_cur (σ t) n a)]) rfl rfl rfl ?_
  refine lk_eqtop (y := 43) h ?_
  refine lk_istore_n (L' := [(0, lk_vr t 0), (1, lk_vi 43)]) dX6_readWay_4 rfl (by decide +kernel) rfl ?_
  refine lk_iload_n dX6_readWay_5 rfl rfl ?_
  refine lk_bipush (v := 43) dX6_readWay_6 (by decide) ?_
  refine lk_icmp_eqN (a := 43) (b := 43) (tgt := 19) dX6_readWay_8 (by decide) (by omega) (by omega) (fun hh1 => ?_) (fun hh1 => ?_)
  ·
    refine lk_aload_n dX6_readWay_19 rfl rfl ?_
    refine lk_iload_n dX6_readWay_20 rfl rfl ?_
    refine lk_bipush (v := 43) dX6_readWay_21 (by decide) ?_
    refine lk_icmp_neN (a := 43) (b := 43) (tgt := 30) dX6_readWay_23 (by decide) (by omega) (by omega) (fun hh2 => ?_) (fun hh2 => ?_)
    ·
      refine lk_iconst (v := 0) dX6_readWay_30 (by decide) ?_
      refine lk_putZ (f := 4) dX6_readWay_31 ht fX6_47 (by decide) (by decide) (by decide) ?_
      refine lk_aload_n dX6_readWay_34 rfl rfl ?_
      refine lk_dup dX6_readWay_35 rfl ?_
      refine lk_getIv (v := nI (a)) (f := 2) dX6_readWay_36 ht fX6_17 (by decide) (by decide) (by simp [lk_up, ha]) ?_
      refine lk_iconst (v := 1) dX6_readWay_39 (by decide) ?_
      refine lk_iaddN (a := a) (b := 1) dX6_readWay_40 ?_
      refine lk_putI (f := 2) dX6_readWay_41 ht fX6_17 (by decide) (by decide) ?_
      refine lk_iconst (v := 1) dX6_readWay_44 (by decide) ?_
      refine lk_iret .boolean dX6_readWay_45 rfl rfl ?_
      rw [hQ]
      first | exact ⟨rfl, rfl, rfl⟩ | (exfalso; omega)
    ·
      refine lk_iconst (v := 1) dX6_readWay_26 (by decide) ?_
      refine lk_goto (tgt := 31) dX6_readWay_27 (by decide) ?_
      refine lk_putZ (f := 4) dX6_readWay_31 ht fX6_47 (by decide) (by decide) (by decide) ?_
      refine lk_aload_n dX6_readWay_34 rfl rfl ?_
      refine lk_dup dX6_readWay_35 rfl ?_
      refine lk_getIv (v := nI (a)) (f := 2) dX6_readWay_36 ht fX6_17 (by decide) (by decide) (by simp [lk_up, ha]) ?_
      refine lk_iconst (v := 1) dX6_readWay_39 (by decide) ?_
      refine lk_iaddN (a := a) (b := 1) dX6_readWay_40 ?_
      refine lk_putI (f := 2) dX6_readWay_41 ht fX6_17 (by decide) (by decide) ?_
      refine lk_iconst (v := 1) dX6_readWay_44 (by decide) ?_
      refine lk_iret .boolean dX6_readWay_45 rfl rfl ?_
      rw [hQ]
      first | exact ⟨rfl, rfl, rfl⟩ | (exfalso; omega)
  ·
    refine lk_iload_n dX6_readWay_11 rfl rfl ?_
    refine lk_bipush (v := 45) dX6_readWay_12 (by decide) ?_
    refine lk_icmp_eqN (a := 43) (b := 45) (tgt := 19) dX6_readWay_14 (by decide) (by omega) (by omega) (fun hh3 => ?_) (fun hh3 => ?_)
    ·
      refine lk_aload_n dX6_readWay_19 rfl rfl ?_
      refine lk_iload_n dX6_readWay_20 rfl rfl ?_
      refine lk_bipush (v := 43) dX6_readWay_21 (by decide) ?_
      refine lk_icmp_neN (a := 43) (b := 43) (tgt := 30) dX6_readWay_23 (by decide) (by omega) (by omega) (fun hh4 => ?_) (fun hh4 => ?_)
      ·
        refine lk_iconst (v := 0) dX6_readWay_30 (by decide) ?_
        refine lk_putZ (f := 4) dX6_readWay_31 ht fX6_47 (by decide) (by decide) (by decide) ?_
        refine lk_aload_n dX6_readWay_34 rfl rfl ?_
        refine lk_dup dX6_readWay_35 rfl ?_
        refine lk_getIv (v := nI (a)) (f := 2) dX6_readWay_36 ht fX6_17 (by decide) (by decide) (by simp [lk_up, ha]) ?_
        refine lk_iconst (v := 1) dX6_readWay_39 (by decide) ?_
        refine lk_iaddN (a := a) (b := 1) dX6_readWay_40 ?_
        refine lk_putI (f := 2) dX6_readWay_41 ht fX6_17 (by decide) (by decide) ?_
        refine lk_iconst (v := 1) dX6_readWay_44 (by decide) ?_
        refine lk_iret .boolean dX6_readWay_45 rfl rfl ?_
        rw [hQ]
        first | exact ⟨rfl, rfl, rfl⟩ | (exfalso; omega)
      ·
        refine lk_iconst (v := 1) dX6_readWay_26 (by decide) ?_
        refine lk_goto (tgt := 31) dX6_readWay_27 (by decide) ?_
        refine lk_putZ (f := 4) dX6_readWay_31 ht fX6_47 (by decide) (by decide) (by decide) ?_
        refine lk_aload_n dX6_readWay_34 rfl rfl ?_
        refine lk_dup dX6_readWay_35 rfl ?_
        refine lk_getIv (v := nI (a)) (f := 2) dX6_readWay_36 ht fX6_17 (by decide) (by decide) (by simp [lk_up, ha]) ?_
        refine lk_iconst (v := 1) dX6_readWay_39 (by decide) ?_
        refine lk_iaddN (a := a) (b := 1) dX6_readWay_40 ?_
        refine lk_putI (f := 2) dX6_readWay_41 ht fX6_17 (by decide) (by decide) ?_
        refine lk_iconst (v := 1) dX6_readWay_44 (by decide) ?_
        refine lk_iret .boolean dX6_readWay_45 rfl rfl ?_
        rw [hQ]
        first | exact ⟨rfl, rfl, rfl⟩ | (exfalso; omega)
    ·
      refine lk_iconst (v := 0) dX6_readWay_17 (by decide) ?_
      refine lk_iret .boolean dX6_readWay_18 rfl rfl ?_
      rw [hQ]
      first | exact ⟨rfl, rfl, rfl⟩ | (exfalso; omega)

set_option maxHeartbeats 1000000 in
set_option maxRecDepth 100000 in
theorem tX6_readWay_m (l : Launch) (X : lk_G) (d : Nat) (σ : lk_N) (τ : lk_T) (t : Nat) (ht : lk_ko t = 6) (n a : Nat) (hn : σ t 1 0 = nI n) (hn60 : n ≤ 60) (ha : σ t 2 0 = nI a) (ha64 : a ≤ 70) (h : lk_cur (σ t) n a = 45) : lk_Mt l X mX6_readWay (d + 1) [lk_vr t 0] σ τ (fun rr σ1 τ1 => rr = some (lk_vi 1) ∧ σ1 = lk_up (lk_up σ t 4 0 0) t 2 0 (nI (a + 1)) ∧ τ1 = τ) := by
  refine lk_met (L := [(0, lk_vr t 0)]) (by decide +kernel) (Nat.le_of_ble_eq_true rfl) rfl ?_
  obtain ⟨Q, hQ⟩ : ∃ Q : lk_Q, Q = fun rr σ1 τ1 => rr = some (lk_vi 1) ∧ σ1 = lk_up (lk_up σ t 4 0 0) t 2 0 (nI (a + 1)) ∧ τ1 = τ := ⟨_, rfl⟩
  rw [← hQ]
  refine lk_aload_n dX6_readWay_0 rfl rfl ?_
  refine lk_callV (o := t) (as := []) (S := []) dX6_readWay_1 rfl vX6_current rfl lX6_44 ht rfl (Nat.le_of_ble_eq_true rfl) (tX6_current l X d σ τ (t := t) (ht := ht) (n := n) (a := a) (hn := hn) (hn60 := hn60) (ha := ha) (ha64 := ha64)) ?_
  refine lk_k3 ?_
  refine lk_cast (pc' := 4) (S' := [lk_vi (lk_cur (σ t) n a)]) rfl rfl rfl ?_
  refine lk_eqtop (y := 45) h ?_
  refine lk_istore_n (L' := [(0, lk_vr t 0), (1, lk_vi 45)]) dX6_readWay_4 rfl (by decide +kernel) rfl ?_
  refine lk_iload_n dX6_readWay_5 rfl rfl ?_
  refine lk_bipush (v := 43) dX6_readWay_6 (by decide) ?_
  refine lk_icmp_eqN (a := 45) (b := 43) (tgt := 19) dX6_readWay_8 (by decide) (by omega) (by omega) (fun hh1 => ?_) (fun hh1 => ?_)
  ·
    refine lk_aload_n dX6_readWay_19 rfl rfl ?_
    refine lk_iload_n dX6_readWay_20 rfl rfl ?_
    refine lk_bipush (v := 43) dX6_readWay_21 (by decide) ?_
    refine lk_icmp_neN (a := 45) (b := 43) (tgt := 30) dX6_readWay_23 (by decide) (by omega) (by omega) (fun hh2 => ?_) (fun hh2 => ?_)
    ·
      refine lk_iconst (v := 0) dX6_readWay_30 (by decide) ?_
      refine lk_putZ (f := 4) dX6_readWay_31 ht fX6_47 (by decide) (by decide) (by decide) ?_
      refine lk_aload_n dX6_readWay_34 rfl rfl ?_
      refine lk_dup dX6_readWay_35 rfl ?_
      refine lk_getIv (v := nI (a)) (f := 2) dX6_readWay_36 ht fX6_17 (by decide) (by decide) (by simp [lk_up, ha]) ?_
      refine lk_iconst (v := 1) dX6_readWay_39 (by decide) ?_
      refine lk_iaddN (a := a) (b := 1) dX6_readWay_40 ?_
      refine lk_putI (f := 2) dX6_readWay_41 ht fX6_17 (by decide) (by decide) ?_
      refine lk_iconst (v := 1) dX6_readWay_44 (by decide) ?_
      refine lk_iret .boolean dX6_readWay_45 rfl rfl ?_
      rw [hQ]
      first | exact ⟨rfl, rfl, rfl⟩ | (exfalso; omega)
    ·
      refine lk_iconst (v := 1) dX6_readWay_26 (by decide) ?_
      refine lk_goto (tgt := 31) dX6_readWay_27 (by decide) ?_
      refine lk_putZ (f := 4) dX6_readWay_31 ht fX6_47 (by decide) (by decide) (by decide) ?_
      refine lk_aload_n dX6_readWay_34 rfl rfl ?_
      refine lk_dup dX6_readWay_35 rfl ?_
      refine lk_getIv (v := nI (a)) (f := 2) dX6_readWay_36 ht fX6_17 (by decide) (by decide) (by simp [lk_up, ha]) ?_
      refine lk_iconst (v := 1) dX6_readWay_39 (by decide) ?_
      refine lk_iaddN (a := a) (b := 1) dX6_readWay_40 ?_
      refine lk_putI (f := 2) dX6_readWay_41 ht fX6_17 (by decide) (by decide) ?_
      refine lk_iconst (v := 1) dX6_readWay_44 (by decide) ?_
      refine lk_iret .boolean dX6_readWay_45 rfl rfl ?_
      rw [hQ]
      first | exact ⟨rfl, rfl, rfl⟩ | (exfalso; omega)
  ·
    refine lk_iload_n dX6_readWay_11 rfl rfl ?_
    refine lk_bipush (v := 45) dX6_readWay_12 (by decide) ?_
    refine lk_icmp_eqN (a := 45) (b := 45) (tgt := 19) dX6_readWay_14 (by decide) (by omega) (by omega) (fun hh3 => ?_) (fun hh3 => ?_)
    ·
      refine lk_aload_n dX6_readWay_19 rfl rfl ?_
      refine lk_iload_n dX6_readWay_20 rfl rfl ?_
      refine lk_bipush (v := 43) dX6_readWay_21 (by decide) ?_
      refine lk_icmp_neN (a := 45) (b := 43) (tgt := 30) dX6_readWay_23 (by decide) (by omega) (by omega) (fun hh4 => ?_) (fun hh4 => ?_)
      ·
        refine lk_iconst (v := 0) dX6_readWay_30 (by decide) ?_
        refine lk_putZ (f := 4) dX6_readWay_31 ht fX6_47 (by decide) (by decide) (by decide) ?_
        refine lk_aload_n dX6_readWay_34 rfl rfl ?_
        refine lk_dup dX6_readWay_35 rfl ?_
        refine lk_getIv (v := nI (a)) (f := 2) dX6_readWay_36 ht fX6_17 (by decide) (by decide) (by simp [lk_up, ha]) ?_
        refine lk_iconst (v := 1) dX6_readWay_39 (by decide) ?_
        refine lk_iaddN (a := a) (b := 1) dX6_readWay_40 ?_
        refine lk_putI (f := 2) dX6_readWay_41 ht fX6_17 (by decide) (by decide) ?_
        refine lk_iconst (v := 1) dX6_readWay_44 (by decide) ?_
        refine lk_iret .boolean dX6_readWay_45 rfl rfl ?_
        rw [hQ]
        first | exact ⟨rfl, rfl, rfl⟩ | (exfalso; omega)
      ·
        refine lk_iconst (v := 1) dX6_readWay_26 (by decide) ?_
        refine lk_goto (tgt := 31) dX6_readWay_27 (by decide) ?_
        refine lk_putZ (f := 4) dX6_readWay_31 ht fX6_47 (by decide) (by decide) (by decide) ?_
        refine lk_aload_n dX6_readWay_34 rfl rfl ?_
        refine lk_dup dX6_readWay_35 rfl ?_
        refine lk_getIv (v := nI (a)) (f := 2) dX6_readWay_36 ht fX6_17 (by decide) (by decide) (by simp [lk_up, ha]) ?_
        refine lk_iconst (v := 1) dX6_readWay_39 (by decide) ?_
        refine lk_iaddN (a := a) (b := 1) dX6_readWay_40 ?_
        refine lk_putI (f := 2) dX6_readWay_41 ht fX6_17 (by decide) (by decide) ?_
        refine lk_iconst (v := 1) dX6_readWay_44 (by decide) ?_
        refine lk_iret .boolean dX6_readWay_45 rfl rfl ?_
        rw [hQ]
        first | exact ⟨rfl, rfl, rfl⟩ | (exfalso; omega)
    ·
      refine lk_iconst (v := 0) dX6_readWay_17 (by decide) ?_
      refine lk_iret .boolean dX6_readWay_18 rfl rfl ?_
      rw [hQ]
      first | exact ⟨rfl, rfl, rfl⟩ | (exfalso; omega)

set_option maxHeartbeats 1000000 in
set_option maxRecDepth 100000 in
theorem tX6_readWay_no (l : Launch) (X : lk_G) (d : Nat) (σ : lk_N) (τ : lk_T) (t : Nat) (ht : lk_ko t = 6) (n a : Nat) (hn : σ t 1 0 = nI n) (hn60 : n ≤ 60) (ha : σ t 2 0 = nI a) (ha64 : a ≤ 70) (h : ¬ lk_cur (σ t) n a = 43) (h2 : ¬ lk_cur (σ t) n a = 45) : lk_Mt l X mX6_readWay (d + 1) [lk_vr t 0] σ τ (fun rr σ1 τ1 => rr = some (lk_vi 0) ∧ σ1 = σ ∧ τ1 = τ) := by
  refine lk_met (L := [(0, lk_vr t 0)]) (by decide +kernel) (Nat.le_of_ble_eq_true rfl) rfl ?_
  obtain ⟨Q, hQ⟩ : ∃ Q : lk_Q, Q = fun rr σ1 τ1 => rr = some (lk_vi 0) ∧ σ1 = σ ∧ τ1 = τ := ⟨_, rfl⟩
  rw [← hQ]
  refine lk_aload_n dX6_readWay_0 rfl rfl ?_
  refine lk_callV (o := t) (as := []) (S := []) dX6_readWay_1 rfl vX6_current rfl lX6_44 ht rfl (Nat.le_of_ble_eq_true rfl) (tX6_current l X d σ τ (t := t) (ht := ht) (n := n) (a := a) (hn := hn) (hn60 := hn60) (ha := ha) (ha64 := ha64)) ?_
  refine lk_k3 ?_
  refine lk_cast (pc' := 4) (S' := [lk_vi (lk_cur (σ t) n a)]) rfl rfl rfl ?_
  refine lk_istore_n (L' := [(0, lk_vr t 0), (1, lk_vi (lk_cur (σ t) n a))]) dX6_readWay_4 rfl (by decide +kernel) rfl ?_
  refine lk_iload_n dX6_readWay_5 rfl rfl ?_
  refine lk_bipush (v := 43) dX6_readWay_6 (by decide) ?_
  refine lk_icmp_eq (tgt := 19) dX6_readWay_8 (by decide) (fun hh1 => absurd hh1 h) (fun hh1 => ?_)
  refine lk_iload_n dX6_readWay_11 rfl rfl ?_
  refine lk_bipush (v := 45) dX6_readWay_12 (by decide) ?_
  refine lk_icmp_eq (tgt := 19) dX6_readWay_14 (by decide) (fun hh2 => absurd hh2 h2) (fun hh2 => ?_)
  refine lk_iconst (v := 0) dX6_readWay_17 (by decide) ?_
  refine lk_iret .boolean dX6_readWay_18 rfl rfl ?_
  rw [hQ]
  exact ⟨by first | rfl | (simp [*]; done) | (simp_all; done) | grind, by first | rfl | (simp [*]; done), rfl⟩

set_option maxHeartbeats 1000000 in
set_option maxRecDepth 100000 in
theorem tX6_readName (l : Launch) (X : lk_G) (d : Nat) (σ : lk_N) (τ : lk_T) (t : Nat) (ht : lk_ko t = 6) (n a : Nat) (hn : σ t 1 0 = nI n) (hn60 : n ≤ 60) (ha : σ t 2 0 = nI a) (ha64 : a ≤ 60) : lk_Mt l X mX6_readName (d + 1) [lk_vr t 0] σ τ (fun rr σ1 τ1 => rr = some (lk_vi ((lk_rdn (σ t) n 4 a 0).1)) ∧ σ1 = lk_up σ t 2 0 (nI (lk_rdn (σ t) n 4 a 0).2) ∧ τ1 = τ) := by
  refine lk_met (L := [(0, lk_vr t 0)]) (by decide +kernel) (Nat.le_of_ble_eq_true rfl) rfl ?_
  obtain ⟨Q, hQ⟩ : ∃ Q : lk_Q, Q = fun rr σ1 τ1 => rr = some (lk_vi ((lk_rdn (σ t) n 4 a 0).1)) ∧ σ1 = lk_up σ t 2 0 (nI (lk_rdn (σ t) n 4 a 0).2) ∧ τ1 = τ := ⟨_, rfl⟩
  rw [← hQ]
  obtain ⟨R, hR⟩ : ∃ R, R = lk_rdn (σ t) n 4 a 0 := ⟨_, rfl⟩
  refine lk_iconst (v := 0) dX6_readName_0 (by decide) ?_
  refine lk_istore_n (L' := [(0, lk_vr t 0), (1, lk_vi 0)]) dX6_readName_1 rfl (by decide +kernel) rfl ?_
  refine lk_iconst (v := 0) dX6_readName_2 (by decide) ?_
  refine lk_istore_n (L' := [(0, lk_vr t 0), (1, lk_vi 0), (2, lk_vi 0)]) dX6_readName_3 rfl (by decide +kernel) rfl ?_
  have LP4 : ∀ (fu : Nat) (i a2 : Nat) (v : Int32), i ≤ 4 → a2 ≤ 60 + i → R = lk_rdn (σ t) n (4 - i) a2 v → 4 - i < fu → lk_W l X mX6_readName (d + 1) 4 [(0, lk_vr t 0), (1, lk_vi (v)), (2, lk_vi (nI (i)))] [] (lk_up σ t 2 0 (nI a2)) τ Q := by
    intro fu
    induction fu with
    | zero => intro i a2 v hi ha2 hI hfu; exact absurd hfu (by omega)
    | succ fu ih =>
      intro i a2 v hi ha2 hI hfu
      refine lk_iload_n dX6_readName_4 rfl rfl ?_
      refine lk_iconst (v := 4) dX6_readName_5 (by decide) ?_
      refine lk_icmp_geN (a := i) (b := 4) (tgt := 75) dX6_readName_6 (by decide) (by omega) (by omega) (fun hh1 => ?_) (fun hh1 => ?_)
      ·
        refine lk_iload_n dX6_readName_75 rfl rfl ?_
        refine lk_iret .int dX6_readName_76 rfl rfl ?_
        rw [hQ]
        rw [show 4 - i = 0 by omega, lk_rdn] at hI
        rw [← hR, hI]
        exact ⟨rfl, rfl, rfl⟩
      ·
        refine lk_aload_n dX6_readName_9 rfl rfl ?_
        refine lk_callV (o := t) (as := []) (S := []) dX6_readName_10 rfl vX6_current rfl lX6_44 ht rfl (Nat.le_of_ble_eq_true rfl) (tX6_current l X d (lk_up σ t 2 0 (nI a2)) τ (t := t) (ht := ht) (n := n) (a := a2) (hn := by simp [lk_up, hn]) (hn60 := hn60) (ha := by simp [lk_up]) (ha64 := by omega)) ?_
        refine lk_k3 ?_
        refine lk_cast (pc' := 13) (S' := [lk_vi (lk_cur ((lk_up σ t 2 0 (nI a2)) t) n a2)]) rfl rfl rfl ?_
        refine lk_eqtop (y := (lk_cur (σ t) n a2)) (by simp [lk_cur, lk_up]) ?_
        refine lk_istore_n (L' := [(0, lk_vr t 0), (1, lk_vi (v)), (2, lk_vi (nI (i))), (3, lk_vi (lk_cur (σ t) n a2))]) dX6_readName_13 rfl (by decide +kernel) rfl ?_
        refine lk_iload_n dX6_readName_14 rfl rfl ?_
        refine lk_bipush (v := 97) dX6_readName_15 (by decide) ?_
        refine lk_icmp_lt (tgt := 30) dX6_readName_17 (by decide) (fun hh2 => ?_) (fun hh2 => ?_)
        ·
          refine lk_iconst (v := 0) dX6_readName_30 (by decide) ?_
          refine lk_istore (L' := [(0, lk_vr t 0), (1, lk_vi (v)), (2, lk_vi (nI (i))), (3, lk_vi (lk_cur (σ t) n a2)), (4, lk_vi 0)]) dX6_readName_31 (by decide +kernel) rfl ?_
          refine lk_iload_n dX6_readName_33 rfl rfl ?_
          refine lk_bipush (v := 27) dX6_readName_34 (by decide) ?_
          refine lk_imul dX6_readName_36 ?_
          refine lk_iload dX6_readName_37 rfl ?_
          refine lk_if_eq (tgt := 51) dX6_readName_39 (by decide) (fun hh3 => ?_) (fun hh3 => absurd hh3 (by decide))
          refine lk_iconst (v := 0) dX6_readName_51 (by decide) ?_
          refine lk_iadd dX6_readName_52 ?_
          refine lk_istore_n (L' := [(0, lk_vr t 0), (1, lk_vi (((v) * 27) + 0)), (2, lk_vi (nI (i))), (3, lk_vi (lk_cur (σ t) n a2)), (4, lk_vi 0)]) dX6_readName_53 rfl (by decide +kernel) rfl ?_
          refine lk_iload dX6_readName_54 rfl ?_
          refine lk_if_eq (tgt := 69) dX6_readName_56 (by decide) (fun hh4 => ?_) (fun hh4 => absurd hh4 (by decide))
          refine lk_iincN (a := i) (m := 1) (L' := [(0, lk_vr t 0), (1, lk_vi (((v) * 27) + 0)), (2, lk_vi (nI (i + 1))), (3, lk_vi (lk_cur (σ t) n a2)), (4, lk_vi 0)]) dX6_readName_69 rfl rfl (by decide +kernel) rfl ?_
          refine lk_goto (tgt := 4) dX6_readName_72 (by decide) ?_
          refine lk_sub (L' := [(0, lk_vr t 0), (1, lk_vi (((v) * 27) + 0)), (2, lk_vi (nI (i + 1)))]) [0, 1, 2] rfl ?_
          rw [show 4 - i = (4 - (i + 1)) + 1 by omega, lk_rdn] at hI
          rw [if_neg (by rintro ⟨z1, z2⟩; first | exact absurd z1 (Int32.not_le.mpr (by assumption)) | exact absurd z2 (Int32.not_le.mpr (by assumption)))] at hI
          exact ih (i + 1) a2 _ (by omega) (by omega) hI (by omega)
        ·
          refine lk_iload_n dX6_readName_20 rfl rfl ?_
          refine lk_bipush (v := 122) dX6_readName_21 (by decide) ?_
          refine lk_icmp_gt (tgt := 30) dX6_readName_23 (by decide) (fun hh5 => ?_) (fun hh5 => ?_)
          ·
            refine lk_iconst (v := 0) dX6_readName_30 (by decide) ?_
            refine lk_istore (L' := [(0, lk_vr t 0), (1, lk_vi (v)), (2, lk_vi (nI (i))), (3, lk_vi (lk_cur (σ t) n a2)), (4, lk_vi 0)]) dX6_readName_31 (by decide +kernel) rfl ?_
            refine lk_iload_n dX6_readName_33 rfl rfl ?_
            refine lk_bipush (v := 27) dX6_readName_34 (by decide) ?_
            refine lk_imul dX6_readName_36 ?_
            refine lk_iload dX6_readName_37 rfl ?_
            refine lk_if_eq (tgt := 51) dX6_readName_39 (by decide) (fun hh6 => ?_) (fun hh6 => absurd hh6 (by decide))
            refine lk_iconst (v := 0) dX6_readName_51 (by decide) ?_
            refine lk_iadd dX6_readName_52 ?_
            refine lk_istore_n (L' := [(0, lk_vr t 0), (1, lk_vi (((v) * 27) + 0)), (2, lk_vi (nI (i))), (3, lk_vi (lk_cur (σ t) n a2)), (4, lk_vi 0)]) dX6_readName_53 rfl (by decide +kernel) rfl ?_
            refine lk_iload dX6_readName_54 rfl ?_
            refine lk_if_eq (tgt := 69) dX6_readName_56 (by decide) (fun hh7 => ?_) (fun hh7 => absurd hh7 (by decide))
            refine lk_iincN (a := i) (m := 1) (L' := [(0, lk_vr t 0), (1, lk_vi (((v) * 27) + 0)), (2, lk_vi (nI (i + 1))), (3, lk_vi (lk_cur (σ t) n a2)), (4, lk_vi 0)]) dX6_readName_69 rfl rfl (by decide +kernel) rfl ?_
            refine lk_goto (tgt := 4) dX6_readName_72 (by decide) ?_
            refine lk_sub (L' := [(0, lk_vr t 0), (1, lk_vi (((v) * 27) + 0)), (2, lk_vi (nI (i + 1)))]) [0, 1, 2] rfl ?_
            rw [show 4 - i = (4 - (i + 1)) + 1 by omega, lk_rdn] at hI
            rw [if_neg (by rintro ⟨z1, z2⟩; first | exact absurd z1 (Int32.not_le.mpr (by assumption)) | exact absurd z2 (Int32.not_le.mpr (by assumption)))] at hI
            exact ih (i + 1) a2 _ (by omega) (by omega) hI (by omega)
          ·
            refine lk_iconst (v := 1) dX6_readName_26 (by decide) ?_
            refine lk_goto (tgt := 31) dX6_readName_27 (by decide) ?_
            refine lk_istore (L' := [(0, lk_vr t 0), (1, lk_vi (v)), (2, lk_vi (nI (i))), (3, lk_vi (lk_cur (σ t) n a2)), (4, lk_vi 1)]) dX6_readName_31 (by decide +kernel) rfl ?_
            refine lk_iload_n dX6_readName_33 rfl rfl ?_
            refine lk_bipush (v := 27) dX6_readName_34 (by decide) ?_
            refine lk_imul dX6_readName_36 ?_
            refine lk_iload dX6_readName_37 rfl ?_
            refine lk_if_eq (tgt := 51) dX6_readName_39 (by decide) (fun hh8 => absurd hh8 (by decide)) (fun hh8 => ?_)
            refine lk_iload_n dX6_readName_42 rfl rfl ?_
            refine lk_bipush (v := 97) dX6_readName_43 (by decide) ?_
            refine lk_isub dX6_readName_45 ?_
            refine lk_iconst (v := 1) dX6_readName_46 (by decide) ?_
            refine lk_iadd dX6_readName_47 ?_
            refine lk_goto (tgt := 52) dX6_readName_48 (by decide) ?_
            refine lk_iadd dX6_readName_52 ?_
            refine lk_istore_n (L' := [(0, lk_vr t 0), (1, lk_vi (((v) * 27) + (((lk_cur (σ t) n a2) - 97) + 1))), (2, lk_vi (nI (i))), (3, lk_vi (lk_cur (σ t) n a2)), (4, lk_vi 1)]) dX6_readName_53 rfl (by decide +kernel) rfl ?_
            refine lk_iload dX6_readName_54 rfl ?_
            refine lk_if_eq (tgt := 69) dX6_readName_56 (by decide) (fun hh9 => absurd hh9 (by decide)) (fun hh9 => ?_)
            refine lk_aload_n dX6_readName_59 rfl rfl ?_
            refine lk_dup dX6_readName_60 rfl ?_
            refine lk_getIv (v := nI (a2)) (f := 2) dX6_readName_61 ht fX6_17 (by decide) (by decide) (by simp [lk_up]) ?_
            refine lk_iconst (v := 1) dX6_readName_64 (by decide) ?_
            refine lk_iaddN (a := a2) (b := 1) dX6_readName_65 ?_
            refine lk_putI (f := 2) dX6_readName_66 ht fX6_17 (by decide) (by decide) ?_
            refine lk_iincN (a := i) (m := 1) (L' := [(0, lk_vr t 0), (1, lk_vi (((v) * 27) + (((lk_cur (σ t) n a2) - 97) + 1))), (2, lk_vi (nI (i + 1))), (3, lk_vi (lk_cur (σ t) n a2)), (4, lk_vi 1)]) dX6_readName_69 rfl rfl (by decide +kernel) rfl ?_
            refine lk_goto (tgt := 4) dX6_readName_72 (by decide) ?_
            refine lk_sub (L' := [(0, lk_vr t 0), (1, lk_vi (((v) * 27) + (((lk_cur (σ t) n a2) - 97) + 1))), (2, lk_vi (nI (i + 1)))]) [0, 1, 2] rfl ?_
            rw [show 4 - i = (4 - (i + 1)) + 1 by omega, lk_rdn] at hI
            rw [if_pos ⟨Int32.not_lt.mp (by assumption), Int32.not_lt.mp (by assumption)⟩] at hI
            rw [lk_up_up]
            exact ih (i + 1) (a2 + 1) _ (by omega) (by omega) hI (by omega)
  refine lk_sg (σ' := lk_up σ t 2 0 (nI a)) (by rw [← ha]; exact lk_up_self _ _ _ _) ?_
  exact LP4 5 0 a 0 (by omega) (by omega) hR (by omega)
