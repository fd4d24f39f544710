theorem lk_chkL {V : lk_O} {r : Nat} {g : Int32} (h : lk_chk V r g = true) : V 7 r ≤ V 6 r + g := by
  simp only [lk_chk, Bool.and_eq_true, decide_eq_true_eq] at h; exact h.1
theorem lk_chkM {V : lk_O} {r : Nat} {g : Int32} (h : lk_chk V r g = true) : V 6 r + g ≤ V 8 r := by
  simp only [lk_chk, Bool.and_eq_true, decide_eq_true_eq] at h; exact h.2
theorem lk_chkN {V : lk_O} {r : Nat} {g : Int32} (h : ¬ V 6 r + g < V 7 r) (h2 : ¬ V 8 r < V 6 r + g) : lk_chk V r g = true := by
  simp only [lk_chk, Bool.and_eq_true, decide_eq_true_eq]; exact ⟨Int32.not_lt.mp h, Int32.not_lt.mp h2⟩
set_option maxHeartbeats 4000000 in
set_option maxRecDepth 100000 in
theorem tX0_hasLock_in (l : Launch) (X : lk_G) (d : Nat) (σ : lk_N) (τ : lk_T) (c : Nat) (hc : lk_ko c = 0) (n k : Nat) (hn : σ c 0 0 = nI n) (hk : k < n) (hn6 : n ≤ 6) : lk_Mt l X mX0_hasLock d [lk_vr c 0, lk_vi (nI (k))] σ τ (fun rr σ1 τ1 => rr = some (lk_vi 1) ∧ σ1 = σ ∧ τ1 = τ) := by
  refine lk_met (L := [(0, lk_vr c 0), (1, lk_vi (nI (k)))]) (by decide +kernel) (Nat.le_of_ble_eq_true rfl) rfl ?_
  obtain ⟨Q, hQ⟩ : ∃ Q : lk_Q, Q = fun rr σ1 τ1 => rr = some (lk_vi 1) ∧ σ1 = σ ∧ τ1 = τ := ⟨_, rfl⟩
  rw [← hQ]
  refine lk_iload_n dX0_hasLock_0 rfl rfl ?_
  refine lk_if_ltN (a := k) (tgt := 16) dX0_hasLock_1 (by decide) (by omega) (fun h1 => absurd h1 (by omega)) (fun h1 => ?_)
  refine lk_iload_n dX0_hasLock_4 rfl rfl ?_
  refine lk_aload_n dX0_hasLock_5 rfl rfl ?_
  refine lk_getIv (v := nI (n)) (f := 0) dX0_hasLock_6 hc fX0_51 (by decide) (by decide) hn ?_
  refine lk_icmp_geN (a := k) (b := n) (tgt := 16) dX0_hasLock_9 (by decide) (by omega) (by omega) (fun h2 => absurd h2 (by omega)) (fun h2 => ?_)
  refine lk_iconst (v := 1) dX0_hasLock_12 (by decide) ?_
  refine lk_goto (tgt := 17) dX0_hasLock_13 (by decide) ?_
  refine lk_iret .boolean dX0_hasLock_17 rfl rfl ?_
  rw [hQ]
  exact ⟨by first | rfl | (simp [*]; done) | (simp_all; done) | grind, by first | rfl | (simp [*]; done), rfl⟩

set_option maxHeartbeats 4000000 in
set_option maxRecDepth 100000 in
theorem tX0_hasLock_out (l : Launch) (X : lk_G) (d : Nat) (σ : lk_N) (τ : lk_T) (c : Nat) (hc : lk_ko c = 0) (k : Int32) (hk : k < 0 ∨ σ c 0 0 ≤ k) : lk_Mt l X mX0_hasLock d [lk_vr c 0, lk_vi (k)] σ τ (fun rr σ1 τ1 => rr = some (lk_vi 0) ∧ σ1 = σ ∧ τ1 = τ) := by
  refine lk_met (L := [(0, lk_vr c 0), (1, lk_vi (k))]) (by decide +kernel) (Nat.le_of_ble_eq_true rfl) rfl ?_
  obtain ⟨Q, hQ⟩ : ∃ Q : lk_Q, Q = fun rr σ1 τ1 => rr = some (lk_vi 0) ∧ σ1 = σ ∧ τ1 = τ := ⟨_, rfl⟩
  rw [← hQ]
  refine lk_iload_n dX0_hasLock_0 rfl rfl ?_
  refine lk_if_lt (tgt := 16) dX0_hasLock_1 (by decide) (fun h1 => ?_) (fun h1 => ?_)
  ·
    refine lk_iconst (v := 0) dX0_hasLock_16 (by decide) ?_
    refine lk_iret .boolean dX0_hasLock_17 rfl rfl ?_
    rw [hQ]
    first | exact ⟨rfl, rfl, rfl⟩ | (exfalso; simp_all [Int32.not_lt, Int32.not_le]; done)
  ·
    refine lk_iload_n dX0_hasLock_4 rfl rfl ?_
    refine lk_aload_n dX0_hasLock_5 rfl rfl ?_
    refine lk_getI (f := 0) dX0_hasLock_6 hc fX0_51 (by decide) (by decide) ?_
    refine lk_icmp_ge (tgt := 16) dX0_hasLock_9 (by decide) (fun h2 => ?_) (fun h2 => ?_)
    ·
      refine lk_iconst (v := 0) dX0_hasLock_16 (by decide) ?_
      refine lk_iret .boolean dX0_hasLock_17 rfl rfl ?_
      rw [hQ]
      first | exact ⟨rfl, rfl, rfl⟩ | (exfalso; simp_all [Int32.not_lt, Int32.not_le]; done)
    ·
      refine lk_iconst (v := 1) dX0_hasLock_12 (by decide) ?_
      refine lk_goto (tgt := 17) dX0_hasLock_13 (by decide) ?_
      refine lk_iret .boolean dX0_hasLock_17 rfl rfl ?_
      rw [hQ]
      first | exact ⟨rfl, rfl, rfl⟩ | (exfalso; simp_all [Int32.not_lt, Int32.not_le]; done)

set_option maxHeartbeats 4000000 in
set_option maxRecDepth 100000 in
theorem tX0_hasReach_in (l : Launch) (X : lk_G) (d : Nat) (σ : lk_N) (τ : lk_T) (c : Nat) (hc : lk_ko c = 0) (n k : Nat) (hn : σ c 0 0 = nI n) (hk : k ≤ n) (hn6 : n ≤ 6) : lk_Mt l X mX0_hasReach d [lk_vr c 0, lk_vi (nI (k))] σ τ (fun rr σ1 τ1 => rr = some (lk_vi 1) ∧ σ1 = σ ∧ τ1 = τ) := by
  refine lk_met (L := [(0, lk_vr c 0), (1, lk_vi (nI (k)))]) (by decide +kernel) (Nat.le_of_ble_eq_true rfl) rfl ?_
  obtain ⟨Q, hQ⟩ : ∃ Q : lk_Q, Q = fun rr σ1 τ1 => rr = some (lk_vi 1) ∧ σ1 = σ ∧ τ1 = τ := ⟨_, rfl⟩
  rw [← hQ]
  refine lk_iload_n dX0_hasReach_0 rfl rfl ?_
  refine lk_if_ltN (a := k) (tgt := 16) dX0_hasReach_1 (by decide) (by omega) (fun h1 => absurd h1 (by omega)) (fun h1 => ?_)
  refine lk_iload_n dX0_hasReach_4 rfl rfl ?_
  refine lk_aload_n dX0_hasReach_5 rfl rfl ?_
  refine lk_getIv (v := nI (n)) (f := 0) dX0_hasReach_6 hc fX0_51 (by decide) (by decide) hn ?_
  refine lk_icmp_gtN (a := k) (b := n) (tgt := 16) dX0_hasReach_9 (by decide) (by omega) (by omega) (fun h2 => absurd h2 (by omega)) (fun h2 => ?_)
  refine lk_iconst (v := 1) dX0_hasReach_12 (by decide) ?_
  refine lk_goto (tgt := 17) dX0_hasReach_13 (by decide) ?_
  refine lk_iret .boolean dX0_hasReach_17 rfl rfl ?_
  rw [hQ]
  exact ⟨by first | rfl | (simp [*]; done) | (simp_all; done) | grind, by first | rfl | (simp [*]; done), rfl⟩

set_option maxHeartbeats 4000000 in
set_option maxRecDepth 100000 in
theorem tX0_hasReach_out (l : Launch) (X : lk_G) (d : Nat) (σ : lk_N) (τ : lk_T) (c : Nat) (hc : lk_ko c = 0) (k : Int32) (hk : k < 0 ∨ σ c 0 0 < k) : lk_Mt l X mX0_hasReach d [lk_vr c 0, lk_vi (k)] σ τ (fun rr σ1 τ1 => rr = some (lk_vi 0) ∧ σ1 = σ ∧ τ1 = τ) := by
  refine lk_met (L := [(0, lk_vr c 0), (1, lk_vi (k))]) (by decide +kernel) (Nat.le_of_ble_eq_true rfl) rfl ?_
  obtain ⟨Q, hQ⟩ : ∃ Q : lk_Q, Q = fun rr σ1 τ1 => rr = some (lk_vi 0) ∧ σ1 = σ ∧ τ1 = τ := ⟨_, rfl⟩
  rw [← hQ]
  refine lk_iload_n dX0_hasReach_0 rfl rfl ?_
  refine lk_if_lt (tgt := 16) dX0_hasReach_1 (by decide) (fun h1 => ?_) (fun h1 => ?_)
  ·
    refine lk_iconst (v := 0) dX0_hasReach_16 (by decide) ?_
    refine lk_iret .boolean dX0_hasReach_17 rfl rfl ?_
    rw [hQ]
    first | exact ⟨rfl, rfl, rfl⟩ | (exfalso; simp_all [Int32.not_lt, Int32.not_le]; done)
  ·
    refine lk_iload_n dX0_hasReach_4 rfl rfl ?_
    refine lk_aload_n dX0_hasReach_5 rfl rfl ?_
    refine lk_getI (f := 0) dX0_hasReach_6 hc fX0_51 (by decide) (by decide) ?_
    refine lk_icmp_gt (tgt := 16) dX0_hasReach_9 (by decide) (fun h2 => ?_) (fun h2 => ?_)
    ·
      refine lk_iconst (v := 0) dX0_hasReach_16 (by decide) ?_
      refine lk_iret .boolean dX0_hasReach_17 rfl rfl ?_
      rw [hQ]
      first | exact ⟨rfl, rfl, rfl⟩ | (exfalso; simp_all [Int32.not_lt, Int32.not_le]; done)
    ·
      refine lk_iconst (v := 1) dX0_hasReach_12 (by decide) ?_
      refine lk_goto (tgt := 17) dX0_hasReach_13 (by decide) ?_
      refine lk_iret .boolean dX0_hasReach_17 rfl rfl ?_
      rw [hQ]
      first | exact ⟨rfl, rfl, rfl⟩ | (exfalso; simp_all [Int32.not_lt, Int32.not_le]; done)

set_option maxHeartbeats 4000000 in
set_option maxRecDepth 100000 in
theorem tX0_isAtRest (l : Launch) (X : lk_G) (d : Nat) (σ : lk_N) (τ : lk_T) (c : Nat) (hc : lk_ko c = 0) (k : Nat) (hk : k < 6) : lk_Mt l X mX0_isAtRest d [lk_vr c 0, lk_vi (nI (k))] σ τ (fun rr σ1 τ1 => rr = some (lk_vi (if σ c 5 k = 0 ∧ σ c 4 k = 0 then 1 else 0)) ∧ σ1 = σ ∧ τ1 = τ) := by
  refine lk_met (L := [(0, lk_vr c 0), (1, lk_vi (nI (k)))]) (by decide +kernel) (Nat.le_of_ble_eq_true rfl) rfl ?_
  obtain ⟨Q, hQ⟩ : ∃ Q : lk_Q, Q = fun rr σ1 τ1 => rr = some (lk_vi (if σ c 5 k = 0 ∧ σ c 4 k = 0 then 1 else 0)) ∧ σ1 = σ ∧ τ1 = τ := ⟨_, rfl⟩
  rw [← hQ]
  refine lk_aload_n dX0_isAtRest_0 rfl rfl ?_
  refine lk_getR (f := 5) dX0_isAtRest_1 hc fX0_21 (by decide) (by decide) ?_
  refine lk_iload_n dX0_isAtRest_4 rfl rfl ?_
  refine lk_zaldN (f := 5) (i := k) dX0_isAtRest_5 hc (by decide) rfl (by omega) (by decide) ?_
  refine lk_if_ne (tgt := 22) dX0_isAtRest_6 (by decide) (fun h1 => ?_) (fun h1 => ?_)
  ·
    refine lk_iconst (v := 0) dX0_isAtRest_22 (by decide) ?_
    refine lk_iret .boolean dX0_isAtRest_23 rfl rfl ?_
    rw [hQ]
    exact ⟨by first | rfl | (simp [*]; done) | (simp_all; done) | grind, by first | rfl | (simp [*]; done), rfl⟩
  ·
    refine lk_aload_n dX0_isAtRest_9 rfl rfl ?_
    refine lk_getR (f := 4) dX0_isAtRest_10 hc fX0_18 (by decide) (by decide) ?_
    refine lk_iload_n dX0_isAtRest_13 rfl rfl ?_
    refine lk_ialdN (f := 4) (i := k) dX0_isAtRest_14 hc (by decide) rfl (by omega) (by decide) ?_
    refine lk_if_ne (tgt := 22) dX0_isAtRest_15 (by decide) (fun h2 => ?_) (fun h2 => ?_)
    ·
      refine lk_iconst (v := 0) dX0_isAtRest_22 (by decide) ?_
      refine lk_iret .boolean dX0_isAtRest_23 rfl rfl ?_
      rw [hQ]
      exact ⟨by first | rfl | (simp [*]; done) | (simp_all; done) | grind, by first | rfl | (simp [*]; done), rfl⟩
    ·
      refine lk_iconst (v := 1) dX0_isAtRest_18 (by decide) ?_
      refine lk_goto (tgt := 23) dX0_isAtRest_19 (by decide) ?_
      refine lk_iret .boolean dX0_isAtRest_23 rfl rfl ?_
      rw [hQ]
      exact ⟨by first | rfl | (simp [*]; done) | (simp_all; done) | grind, by first | rfl | (simp [*]; done), rfl⟩

set_option maxHeartbeats 4000000 in
set_option maxRecDepth 100000 in
theorem tX0_share (l : Launch) (X : lk_G) (d : Nat) (σ : lk_N) (τ : lk_T) (c : Nat) (hc : lk_ko c = 0) (k : Nat) (hk : k < 6) (hp : ¬ σ c 3 k + 2 = 0) : lk_Mt l X mX0_share d [lk_vr c 0, lk_vi (nI (k))] σ τ (fun rr σ1 τ1 => rr = some (lk_vi (lk_shr (σ c) k)) ∧ σ1 = σ ∧ τ1 = τ) := by
  refine lk_met (L := [(0, lk_vr c 0), (1, lk_vi (nI (k)))]) (by decide +kernel) (Nat.le_of_ble_eq_true rfl) rfl ?_
  obtain ⟨Q, hQ⟩ : ∃ Q : lk_Q, Q = fun rr σ1 τ1 => rr = some (lk_vi (lk_shr (σ c) k)) ∧ σ1 = σ ∧ τ1 = τ := ⟨_, rfl⟩
  rw [← hQ]
  refine lk_aload_n dX0_share_0 rfl rfl ?_
  refine lk_getR (f := 2) dX0_share_1 hc fX0_9 (by decide) (by decide) ?_
  refine lk_iload_n dX0_share_4 rfl rfl ?_
  refine lk_ialdN (f := 2) (i := k) dX0_share_5 hc (by decide) rfl (by omega) (by decide) ?_
  refine lk_aload_n dX0_share_6 rfl rfl ?_
  refine lk_getR (f := 3) dX0_share_7 hc fX0_15 (by decide) (by decide) ?_
  refine lk_iload_n dX0_share_10 rfl rfl ?_
  refine lk_ialdN (f := 3) (i := k) dX0_share_11 hc (by decide) rfl (by omega) (by decide) ?_
  refine lk_imul dX0_share_12 ?_
  refine lk_aload_n dX0_share_13 rfl rfl ?_
  refine lk_getR (f := 3) dX0_share_14 hc fX0_15 (by decide) (by decide) ?_
  refine lk_iload_n dX0_share_17 rfl rfl ?_
  refine lk_ialdN (f := 3) (i := k) dX0_share_18 hc (by decide) rfl (by omega) (by decide) ?_
  refine lk_iconst (v := 2) dX0_share_19 (by decide) ?_
  refine lk_iadd dX0_share_20 ?_
  refine lk_idiv dX0_share_21 hp ?_
  refine lk_iret .int dX0_share_22 rfl rfl ?_
  rw [hQ]
  exact ⟨by first | rfl | (simp [*]; done) | (simp_all; done) | grind, by first | rfl | (simp [*]; done), rfl⟩

set_option maxHeartbeats 4000000 in
set_option maxRecDepth 100000 in
theorem tX0_lockFrom (l : Launch) (X : lk_G) (d : Nat) (σ : lk_N) (τ : lk_T) (r u : Int32) : lk_Mt l X mX0_lockFrom d [lk_vi (r), lk_vi (u)] σ τ (fun rr σ1 τ1 => rr = some (lk_vi (if u = 0 then r - 1 else r)) ∧ σ1 = σ ∧ τ1 = τ) := by
  refine lk_met (L := [(0, lk_vi (r)), (1, lk_vi (u))]) (by decide +kernel) (Nat.le_of_ble_eq_true rfl) rfl ?_
  obtain ⟨Q, hQ⟩ : ∃ Q : lk_Q, Q = fun rr σ1 τ1 => rr = some (lk_vi (if u = 0 then r - 1 else r)) ∧ σ1 = σ ∧ τ1 = τ := ⟨_, rfl⟩
  rw [← hQ]
  refine lk_iload_n dX0_lockFrom_0 rfl rfl ?_
  refine lk_if_eq (tgt := 8) dX0_lockFrom_1 (by decide) (fun h1 => ?_) (fun h1 => ?_)
  ·
    refine lk_iload_n dX0_lockFrom_8 rfl rfl ?_
    refine lk_iconst (v := 1) dX0_lockFrom_9 (by decide) ?_
    refine lk_isub dX0_lockFrom_10 ?_
    refine lk_iret .int dX0_lockFrom_11 rfl rfl ?_
    rw [hQ]
    exact ⟨by first | rfl | (simp [*]; done) | (simp_all; done) | grind, by first | rfl | (simp [*]; done), rfl⟩
  ·
    refine lk_iload_n dX0_lockFrom_4 rfl rfl ?_
    refine lk_goto (tgt := 11) dX0_lockFrom_5 (by decide) ?_
    refine lk_iret .int dX0_lockFrom_11 rfl rfl ?_
    rw [hQ]
    exact ⟨by first | rfl | (simp [*]; done) | (simp_all; done) | grind, by first | rfl | (simp [*]; done), rfl⟩

set_option maxHeartbeats 4000000 in
set_option maxRecDepth 100000 in
theorem tX0_isBarred_ok (l : Launch) (X : lk_G) (d : Nat) (σ : lk_N) (τ : lk_T) (c : Nat) (hc : lk_ko c = 0) (a s : Int32) (r : Nat) (g : Int32) (hr : r < 7) (h : lk_chk (σ c) r g = true) : lk_Mt l X mX0_isBarred d [lk_vr c 0, lk_vi (a), lk_vi (s), lk_vi (nI (r)), lk_vi (g)] σ τ (fun rr σ1 τ1 => rr = some (lk_vi 0) ∧ σ1 = σ ∧ τ1 = τ) := by
  refine lk_met (L := [(0, lk_vr c 0), (1, lk_vi (a)), (2, lk_vi (s)), (3, lk_vi (nI (r))), (4, lk_vi (g))]) (by decide +kernel) (Nat.le_of_ble_eq_true rfl) rfl ?_
  obtain ⟨Q, hQ⟩ : ∃ Q : lk_Q, Q = fun rr σ1 τ1 => rr = some (lk_vi 0) ∧ σ1 = σ ∧ τ1 = τ := ⟨_, rfl⟩
  rw [← hQ]
  refine lk_aload_n dX0_isBarred_0 rfl rfl ?_
  refine lk_getR (f := 6) dX0_isBarred_1 hc fX0_25 (by decide) (by decide) ?_
  refine lk_iload_n dX0_isBarred_4 rfl rfl ?_
  refine lk_ialdN (f := 6) (i := r) dX0_isBarred_5 hc (by decide) rfl (by omega) (by decide) ?_
  refine lk_iload dX0_isBarred_6 rfl ?_
  refine lk_iadd dX0_isBarred_8 ?_
  refine lk_istore (L' := [(0, lk_vr c 0), (1, lk_vi (a)), (2, lk_vi (s)), (3, lk_vi (nI (r))), (4, lk_vi (g)), (5, lk_vi ((σ c 6 (r)) + (g)))]) dX0_isBarred_9 (by decide +kernel) rfl ?_
  refine lk_iload dX0_isBarred_11 rfl ?_
  refine lk_aload_n dX0_isBarred_13 rfl rfl ?_
  refine lk_getR (f := 7) dX0_isBarred_14 hc fX0_28 (by decide) (by decide) ?_
  refine lk_iload_n dX0_isBarred_17 rfl rfl ?_
  refine lk_ialdN (f := 7) (i := r) dX0_isBarred_18 hc (by decide) rfl (by omega) (by decide) ?_
  refine lk_icmp_lt (tgt := 35) dX0_isBarred_19 (by decide) (fun h1 => absurd h1 (Int32.not_lt.mpr (lk_chkL h))) (fun h1 => ?_)
  refine lk_iload dX0_isBarred_22 rfl ?_
  refine lk_aload_n dX0_isBarred_24 rfl rfl ?_
  refine lk_getR (f := 8) dX0_isBarred_25 hc fX0_31 (by decide) (by decide) ?_
  refine lk_iload_n dX0_isBarred_28 rfl rfl ?_
  refine lk_ialdN (f := 8) (i := r) dX0_isBarred_29 hc (by decide) rfl (by omega) (by decide) ?_
  refine lk_icmp_gt (tgt := 35) dX0_isBarred_30 (by decide) (fun h2 => absurd h2 (Int32.not_lt.mpr (lk_chkM h))) (fun h2 => ?_)
  refine lk_iconst (v := 0) dX0_isBarred_33 (by decide) ?_
  refine lk_iret .boolean dX0_isBarred_34 rfl rfl ?_
  rw [hQ]
  exact ⟨by first | rfl | (simp [*]; done) | (simp_all; done) | grind, by first | rfl | (simp [*]; done), rfl⟩

set_option maxHeartbeats 4000000 in
set_option maxRecDepth 100000 in
theorem tX0_isBarred_no (l : Launch) (X : lk_G) (d : Nat) (σ : lk_N) (τ : lk_T) (c : Nat) (hc : lk_ko c = 0) (a s : Int32) (r : Nat) (g : Int32) (hr : r < 7) (h : lk_chk (σ c) r g = false) : lk_Mt l X mX0_isBarred d [lk_vr c 0, lk_vi (a), lk_vi (s), lk_vi (nI (r)), lk_vi (g)] σ τ (fun rr σ1 τ1 => rr = some (lk_vi 1) ∧ σ1 = lk_so σ (c + 2) (lk_kau (σ (c + 2)) a (s, r, lk_side (σ c) r g)) ∧ τ1 = τ) := by
  refine lk_met (L := [(0, lk_vr c 0), (1, lk_vi (a)), (2, lk_vi (s)), (3, lk_vi (nI (r))), (4, lk_vi (g))]) (by decide +kernel) (Nat.le_of_ble_eq_true rfl) rfl ?_
  obtain ⟨Q, hQ⟩ : ∃ Q : lk_Q, Q = fun rr σ1 τ1 => rr = some (lk_vi 1) ∧ σ1 = lk_so σ (c + 2) (lk_kau (σ (c + 2)) a (s, r, lk_side (σ c) r g)) ∧ τ1 = τ := ⟨_, rfl⟩
  rw [← hQ]
  refine lk_aload_n dX0_isBarred_0 rfl rfl ?_
  refine lk_getR (f := 6) dX0_isBarred_1 hc fX0_25 (by decide) (by decide) ?_
  refine lk_iload_n dX0_isBarred_4 rfl rfl ?_
  refine lk_ialdN (f := 6) (i := r) dX0_isBarred_5 hc (by decide) rfl (by omega) (by decide) ?_
  refine lk_iload dX0_isBarred_6 rfl ?_
  refine lk_iadd dX0_isBarred_8 ?_
  refine lk_istore (L' := [(0, lk_vr c 0), (1, lk_vi (a)), (2, lk_vi (s)), (3, lk_vi (nI (r))), (4, lk_vi (g)), (5, lk_vi ((σ c 6 (r)) + (g)))]) dX0_isBarred_9 (by decide +kernel) rfl ?_
  refine lk_iload dX0_isBarred_11 rfl ?_
  refine lk_aload_n dX0_isBarred_13 rfl rfl ?_
  refine lk_getR (f := 7) dX0_isBarred_14 hc fX0_28 (by decide) (by decide) ?_
  refine lk_iload_n dX0_isBarred_17 rfl rfl ?_
  refine lk_ialdN (f := 7) (i := r) dX0_isBarred_18 hc (by decide) rfl (by omega) (by decide) ?_
  refine lk_icmp_lt (tgt := 35) dX0_isBarred_19 (by decide) (fun h1 => ?_) (fun h1 => ?_)
  ·
    refine lk_aload_n dX0_isBarred_35 rfl rfl ?_
    refine lk_getO (f := 11) (o' := (c + 2)) dX0_isBarred_36 hc fX0_47 (by decide) (by decide) (lk_fo2 hc) ?_
    refine lk_iconst (v := 1) dX0_isBarred_39 (by decide) ?_
    refine lk_putZ (f := 0) dX0_isBarred_40 (lk_kc2 hc) fX0_95 (by decide) (by decide) (by decide) ?_
    refine lk_aload_n dX0_isBarred_43 rfl rfl ?_
    refine lk_getO (f := 11) (o' := (c + 2)) dX0_isBarred_44 hc fX0_47 (by decide) (by decide) (lk_fo2 hc) ?_
    refine lk_iload_n dX0_isBarred_47 rfl rfl ?_
    refine lk_putI (f := 1) dX0_isBarred_48 (lk_kc2 hc) fX0_99 (by decide) (by decide) ?_
    refine lk_aload_n dX0_isBarred_51 rfl rfl ?_
    refine lk_getO (f := 11) (o' := (c + 2)) dX0_isBarred_52 hc fX0_47 (by decide) (by decide) (lk_fo2 hc) ?_
    refine lk_iload_n dX0_isBarred_55 rfl rfl ?_
    refine lk_putI (f := 2) dX0_isBarred_56 (lk_kc2 hc) fX0_102 (by decide) (by decide) ?_
    refine lk_aload_n dX0_isBarred_59 rfl rfl ?_
    refine lk_getO (f := 11) (o' := (c + 2)) dX0_isBarred_60 hc fX0_47 (by decide) (by decide) (lk_fo2 hc) ?_
    refine lk_iload_n dX0_isBarred_63 rfl rfl ?_
    refine lk_putI (f := 3) dX0_isBarred_64 (lk_kc2 hc) fX0_105 (by decide) (by decide) ?_
    refine lk_aload_n dX0_isBarred_67 rfl rfl ?_
    refine lk_getO (f := 11) (o' := (c + 2)) dX0_isBarred_68 hc fX0_47 (by decide) (by decide) (lk_fo2 hc) ?_
    refine lk_iload dX0_isBarred_71 rfl ?_
    refine lk_aload_n dX0_isBarred_73 rfl rfl ?_
    refine lk_getR (f := 7) dX0_isBarred_74 hc fX0_28 (by decide) (by decide) ?_
    refine lk_iload_n dX0_isBarred_77 rfl rfl ?_
    refine lk_ialdN (f := 7) (i := r) dX0_isBarred_78 hc (by decide) rfl (by omega) (by decide) ?_
    refine lk_eqtop (y := (σ c 7 r)) (by simp [lk_up]) ?_
    refine lk_icmp_ge (tgt := 86) dX0_isBarred_79 (by decide) (fun h2 => ?_) (fun h2 => ?_)
    ·
      refine lk_iconst (v := 2) dX0_isBarred_86 (by decide) ?_
      refine lk_putI (f := 4) dX0_isBarred_87 (lk_kc2 hc) fX0_108 (by decide) (by decide) ?_
      refine lk_iconst (v := 1) dX0_isBarred_90 (by decide) ?_
      refine lk_iret .boolean dX0_isBarred_91 rfl rfl ?_
      rw [hQ]
      exact ⟨rfl, by first | (have hs : lk_side (σ c) r g = 1 := if_pos (Int32.not_le.mp (by assumption)); simp only [lk_up_so, lk_so_so, lk_so_eq, lk_kau, hs]) | (have hs : lk_side (σ c) r g = 2 := if_neg (Int32.not_lt.mpr (by assumption)); simp only [lk_up_so, lk_so_so, lk_so_eq, lk_kau, hs]), rfl⟩
    ·
      refine lk_iconst (v := 1) dX0_isBarred_82 (by decide) ?_
      refine lk_goto (tgt := 87) dX0_isBarred_83 (by decide) ?_
      refine lk_putI (f := 4) dX0_isBarred_87 (lk_kc2 hc) fX0_108 (by decide) (by decide) ?_
      refine lk_iconst (v := 1) dX0_isBarred_90 (by decide) ?_
      refine lk_iret .boolean dX0_isBarred_91 rfl rfl ?_
      rw [hQ]
      exact ⟨rfl, by first | (have hs : lk_side (σ c) r g = 1 := if_pos (Int32.not_le.mp (by assumption)); simp only [lk_up_so, lk_so_so, lk_so_eq, lk_kau, hs]) | (have hs : lk_side (σ c) r g = 2 := if_neg (Int32.not_lt.mpr (by assumption)); simp only [lk_up_so, lk_so_so, lk_so_eq, lk_kau, hs]), rfl⟩
  ·
    refine lk_iload dX0_isBarred_22 rfl ?_
    refine lk_aload_n dX0_isBarred_24 rfl rfl ?_
    refine lk_getR (f := 8) dX0_isBarred_25 hc fX0_31 (by decide) (by decide) ?_
    refine lk_iload_n dX0_isBarred_28 rfl rfl ?_
    refine lk_ialdN (f := 8) (i := r) dX0_isBarred_29 hc (by decide) rfl (by omega) (by decide) ?_
    refine lk_icmp_gt (tgt := 35) dX0_isBarred_30 (by decide) (fun h3 => ?_) (fun h3 => ?_)
    ·
      refine lk_aload_n dX0_isBarred_35 rfl rfl ?_
      refine lk_getO (f := 11) (o' := (c + 2)) dX0_isBarred_36 hc fX0_47 (by decide) (by decide) (lk_fo2 hc) ?_
      refine lk_iconst (v := 1) dX0_isBarred_39 (by decide) ?_
      refine lk_putZ (f := 0) dX0_isBarred_40 (lk_kc2 hc) fX0_95 (by decide) (by decide) (by decide) ?_
      refine lk_aload_n dX0_isBarred_43 rfl rfl ?_
      refine lk_getO (f := 11) (o' := (c + 2)) dX0_isBarred_44 hc fX0_47 (by decide) (by decide) (lk_fo2 hc) ?_
      refine lk_iload_n dX0_isBarred_47 rfl rfl ?_
      refine lk_putI (f := 1) dX0_isBarred_48 (lk_kc2 hc) fX0_99 (by decide) (by decide) ?_
      refine lk_aload_n dX0_isBarred_51 rfl rfl ?_
      refine lk_getO (f := 11) (o' := (c + 2)) dX0_isBarred_52 hc fX0_47 (by decide) (by decide) (lk_fo2 hc) ?_
      refine lk_iload_n dX0_isBarred_55 rfl rfl ?_
      refine lk_putI (f := 2) dX0_isBarred_56 (lk_kc2 hc) fX0_102 (by decide) (by decide) ?_
      refine lk_aload_n dX0_isBarred_59 rfl rfl ?_
      refine lk_getO (f := 11) (o' := (c + 2)) dX0_isBarred_60 hc fX0_47 (by decide) (by decide) (lk_fo2 hc) ?_
      refine lk_iload_n dX0_isBarred_63 rfl rfl ?_
      refine lk_putI (f := 3) dX0_isBarred_64 (lk_kc2 hc) fX0_105 (by decide) (by decide) ?_
      refine lk_aload_n dX0_isBarred_67 rfl rfl ?_
      refine lk_getO (f := 11) (o' := (c + 2)) dX0_isBarred_68 hc fX0_47 (by decide) (by decide) (lk_fo2 hc) ?_
      refine lk_iload dX0_isBarred_71 rfl ?_
      refine lk_aload_n dX0_isBarred_73 rfl rfl ?_
      refine lk_getR (f := 7) dX0_isBarred_74 hc fX0_28 (by decide) (by decide) ?_
      refine lk_iload_n dX0_isBarred_77 rfl rfl ?_
      refine lk_ialdN (f := 7) (i := r) dX0_isBarred_78 hc (by decide) rfl (by omega) (by decide) ?_
      refine lk_eqtop (y := (σ c 7 r)) (by simp [lk_up]) ?_
      refine lk_icmp_ge (tgt := 86) dX0_isBarred_79 (by decide) (fun h4 => ?_) (fun h4 => ?_)
      ·
        refine lk_iconst (v := 2) dX0_isBarred_86 (by decide) ?_
        refine lk_putI (f := 4) dX0_isBarred_87 (lk_kc2 hc) fX0_108 (by decide) (by decide) ?_
        refine lk_iconst (v := 1) dX0_isBarred_90 (by decide) ?_
        refine lk_iret .boolean dX0_isBarred_91 rfl rfl ?_
        rw [hQ]
        exact ⟨rfl, by first | (have hs : lk_side (σ c) r g = 1 := if_pos (Int32.not_le.mp (by assumption)); simp only [lk_up_so, lk_so_so, lk_so_eq, lk_kau, hs]) | (have hs : lk_side (σ c) r g = 2 := if_neg (Int32.not_lt.mpr (by assumption)); simp only [lk_up_so, lk_so_so, lk_so_eq, lk_kau, hs]), rfl⟩
      ·
        refine lk_iconst (v := 1) dX0_isBarred_82 (by decide) ?_
        refine lk_goto (tgt := 87) dX0_isBarred_83 (by decide) ?_
        refine lk_putI (f := 4) dX0_isBarred_87 (lk_kc2 hc) fX0_108 (by decide) (by decide) ?_
        refine lk_iconst (v := 1) dX0_isBarred_90 (by decide) ?_
        refine lk_iret .boolean dX0_isBarred_91 rfl rfl ?_
        rw [hQ]
        exact ⟨rfl, by first | (have hs : lk_side (σ c) r g = 1 := if_pos (Int32.not_le.mp (by assumption)); simp only [lk_up_so, lk_so_so, lk_so_eq, lk_kau, hs]) | (have hs : lk_side (σ c) r g = 2 := if_neg (Int32.not_lt.mpr (by assumption)); simp only [lk_up_so, lk_so_so, lk_so_eq, lk_kau, hs]), rfl⟩
    ·
      refine lk_iconst (v := 0) dX0_isBarred_33 (by decide) ?_
      refine lk_iret .boolean dX0_isBarred_34 rfl rfl ?_
      rw [hQ]
      exact absurd (lk_chkN (by assumption) (by assumption)) (by rw [h]; decide)

set_option maxHeartbeats 4000000 in
set_option maxRecDepth 100000 in
theorem tX0_fills_ok (l : Launch) (X : lk_G) (d : Nat) (σ : lk_N) (τ : lk_T) (c : Nat) (hc : lk_ko c = 0) (k : Nat) (hk : k < 6) (V : lk_O) (h : lk_fil (σ c) k = .inl V) : lk_Mt l X mX0_fills (d + 1) [lk_vr c 0, lk_vi (nI (k))] σ τ (fun rr σ1 τ1 => rr = some (lk_vi 1) ∧ σ1 = lk_so σ c V ∧ τ1 = τ) := by
  refine lk_met (L := [(0, lk_vr c 0), (1, lk_vi (nI (k)))]) (by decide +kernel) (Nat.le_of_ble_eq_true rfl) rfl ?_
  obtain ⟨Q, hQ⟩ : ∃ Q : lk_Q, Q = fun rr σ1 τ1 => rr = some (lk_vi 1) ∧ σ1 = lk_so σ c V ∧ τ1 = τ := ⟨_, rfl⟩
  rw [← hQ]
  refine lk_aload_n dX0_fills_0 rfl rfl ?_
  refine lk_getR (f := 2) dX0_fills_1 hc fX0_9 (by decide) (by decide) ?_
  refine lk_iload_n dX0_fills_4 rfl rfl ?_
  refine lk_ialdN (f := 2) (i := k) dX0_fills_5 hc (by decide) rfl (by omega) (by decide) ?_
  refine lk_aload_n dX0_fills_6 rfl rfl ?_
  refine lk_getR (f := 4) dX0_fills_7 hc fX0_18 (by decide) (by decide) ?_
  refine lk_iload_n dX0_fills_10 rfl rfl ?_
  refine lk_ialdN (f := 4) (i := k) dX0_fills_11 hc (by decide) rfl (by omega) (by decide) ?_
  refine lk_isub dX0_fills_12 ?_
  refine lk_istore_n (L' := [(0, lk_vr c 0), (1, lk_vi (nI (k))), (2, lk_vi ((σ c 2 (k)) - (σ c 4 (k))))]) dX0_fills_13 rfl (by decide +kernel) rfl ?_
  refine lk_aload_n dX0_fills_14 rfl rfl ?_
  refine lk_iload_n dX0_fills_15 rfl rfl ?_
  refine lk_iconst (v := 2) dX0_fills_16 (by decide) ?_
  refine lk_iload_n dX0_fills_17 rfl rfl ?_
  refine lk_iconst (v := 1) dX0_fills_18 (by decide) ?_
  refine lk_iaddN (a := k) (b := 1) dX0_fills_19 ?_
  refine lk_iload_n dX0_fills_20 rfl rfl ?_
  refine lk_ineg dX0_fills_21 ?_
  rcases hb : lk_chk (σ c) (k + 1) (0 - (σ c 2 (k) - σ c 4 (k))) with _ | _
  ·
    refine lk_callV (o := c) (as := [lk_vi (nI (k)), lk_vi 2, lk_vi (nI (k + 1)), lk_vi (0 - ((σ c 2 (k)) - (σ c 4 (k))))]) (S := []) dX0_fills_22 rfl vX0_isBarred rfl lX0_91 hc rfl (Nat.le_of_ble_eq_true rfl) (tX0_isBarred_no l X d σ τ (c := c) (a := nI (k)) (s := 2) (r := (k + 1)) (g := (0 - ((σ c 2 (k)) - (σ c 4 (k))))) (hc := hc) (hr := by omega) (h := hb)) ?_
    refine lk_k3 ?_
    refine lk_cast (pc' := 25) (S' := [lk_vi 1]) rfl rfl rfl ?_
    refine lk_if_eq (tgt := 30) dX0_fills_25 (by decide) (fun h1 => absurd h1 (by decide)) (fun h1 => ?_)
    refine lk_iconst (v := 0) dX0_fills_28 (by decide) ?_
    refine lk_iret .boolean dX0_fills_29 rfl rfl ?_
    rw [hQ]
    rw [lk_fil, if_neg (by rw [hb]; decide)] at h
    cases h
  ·
    refine lk_callV (o := c) (as := [lk_vi (nI (k)), lk_vi 2, lk_vi (nI (k + 1)), lk_vi (0 - ((σ c 2 (k)) - (σ c 4 (k))))]) (S := []) dX0_fills_22 rfl vX0_isBarred rfl lX0_91 hc rfl (Nat.le_of_ble_eq_true rfl) (tX0_isBarred_ok l X d σ τ (c := c) (a := nI (k)) (s := 2) (r := (k + 1)) (g := (0 - ((σ c 2 (k)) - (σ c 4 (k))))) (hc := hc) (hr := by omega) (h := hb)) ?_
    refine lk_k3 ?_
    refine lk_cast (pc' := 25) (S' := [lk_vi 0]) rfl rfl rfl ?_
    refine lk_if_eq (tgt := 30) dX0_fills_25 (by decide) (fun h2 => ?_) (fun h2 => absurd h2 (by decide))
    refine lk_aload_n dX0_fills_30 rfl rfl ?_
    refine lk_getR (f := 6) dX0_fills_31 hc fX0_25 (by decide) (by decide) ?_
    refine lk_iload_n dX0_fills_34 rfl rfl ?_
    refine lk_iconst (v := 1) dX0_fills_35 (by decide) ?_
    refine lk_iaddN (a := k) (b := 1) dX0_fills_36 ?_
    refine lk_dup2 dX0_fills_37 rfl rfl ?_
    refine lk_ialdN (f := 6) (i := k + 1) dX0_fills_38 hc (by decide) rfl (by omega) (by decide) ?_
    refine lk_iload_n dX0_fills_39 rfl rfl ?_
    refine lk_isub dX0_fills_40 ?_
    refine lk_iastN (f := 6) (i := k + 1) (v := ((σ c 6 (k + 1)) - ((σ c 2 (k)) - (σ c 4 (k))))) dX0_fills_41 hc (by decide) rfl (by omega) (by decide) ?_
    refine lk_aload_n dX0_fills_42 rfl rfl ?_
    refine lk_getR (f := 4) dX0_fills_43 hc fX0_18 (by decide) (by decide) ?_
    refine lk_iload_n dX0_fills_46 rfl rfl ?_
    refine lk_iconst (v := 0) dX0_fills_47 (by decide) ?_
    refine lk_iastN (f := 4) (i := k) (v := 0) dX0_fills_48 hc (by decide) rfl (by omega) (by decide) ?_
    refine lk_aload_n dX0_fills_49 rfl rfl ?_
    refine lk_getR (f := 5) dX0_fills_50 hc fX0_21 (by decide) (by decide) ?_
    refine lk_iload_n dX0_fills_53 rfl rfl ?_
    refine lk_iconst (v := 1) dX0_fills_54 (by decide) ?_
    refine lk_zastN (f := 5) (i := k) (v := 1) dX0_fills_55 hc (by decide) rfl (by omega) (by decide) (by decide) ?_
    refine lk_iconst (v := 1) dX0_fills_56 (by decide) ?_
    refine lk_iret .boolean dX0_fills_57 rfl rfl ?_
    rw [hQ]
    refine ⟨rfl, ?_, rfl⟩
    rw [lk_fil, if_pos hb] at h
    cases h
    simp [lk_up_so, lk_so_so, lk_so_eq, lk_ou]

set_option maxHeartbeats 4000000 in
set_option maxRecDepth 100000 in
theorem tX0_fills_no (l : Launch) (X : lk_G) (d : Nat) (σ : lk_N) (τ : lk_T) (c : Nat) (hc : lk_ko c = 0) (k : Nat) (hk : k < 6) (q : Int32 × Nat × Int32) (h : lk_fil (σ c) k = .inr q) : lk_Mt l X mX0_fills (d + 1) [lk_vr c 0, lk_vi (nI (k))] σ τ (fun rr σ1 τ1 => rr = some (lk_vi 0) ∧ σ1 = lk_so σ (c + 2) (lk_kau (σ (c + 2)) (nI k) q) ∧ τ1 = τ) := by
  refine lk_met (L := [(0, lk_vr c 0), (1, lk_vi (nI (k)))]) (by decide +kernel) (Nat.le_of_ble_eq_true rfl) rfl ?_
  obtain ⟨Q, hQ⟩ : ∃ Q : lk_Q, Q = fun rr σ1 τ1 => rr = some (lk_vi 0) ∧ σ1 = lk_so σ (c + 2) (lk_kau (σ (c + 2)) (nI k) q) ∧ τ1 = τ := ⟨_, rfl⟩
  rw [← hQ]
  refine lk_aload_n dX0_fills_0 rfl rfl ?_
  refine lk_getR (f := 2) dX0_fills_1 hc fX0_9 (by decide) (by decide) ?_
  refine lk_iload_n dX0_fills_4 rfl rfl ?_
  refine lk_ialdN (f := 2) (i := k) dX0_fills_5 hc (by decide) rfl (by omega) (by decide) ?_
  refine lk_aload_n dX0_fills_6 rfl rfl ?_
  refine lk_getR (f := 4) dX0_fills_7 hc fX0_18 (by decide) (by decide) ?_
  refine lk_iload_n dX0_fills_10 rfl rfl ?_
  refine lk_ialdN (f := 4) (i := k) dX0_fills_11 hc (by decide) rfl (by omega) (by decide) ?_
  refine lk_isub dX0_fills_12 ?_
  refine lk_istore_n (L' := [(0, lk_vr c 0), (1, lk_vi (nI (k))), (2, lk_vi ((σ c 2 (k)) - (σ c 4 (k))))]) dX0_fills_13 rfl (by decide +kernel) rfl ?_
  refine lk_aload_n dX0_fills_14 rfl rfl ?_
  refine lk_iload_n dX0_fills_15 rfl rfl ?_
  refine lk_iconst (v := 2) dX0_fills_16 (by decide) ?_
  refine lk_iload_n dX0_fills_17 rfl rfl ?_
  refine lk_iconst (v := 1) dX0_fills_18 (by decide) ?_
  refine lk_iaddN (a := k) (b := 1) dX0_fills_19 ?_
  refine lk_iload_n dX0_fills_20 rfl rfl ?_
  refine lk_ineg dX0_fills_21 ?_
  rcases hb : lk_chk (σ c) (k + 1) (0 - (σ c 2 (k) - σ c 4 (k))) with _ | _
  ·
    refine lk_callV (o := c) (as := [lk_vi (nI (k)), lk_vi 2, lk_vi (nI (k + 1)), lk_vi (0 - ((σ c 2 (k)) - (σ c 4 (k))))]) (S := []) dX0_fills_22 rfl vX0_isBarred rfl lX0_91 hc rfl (Nat.le_of_ble_eq_true rfl) (tX0_isBarred_no l X d σ τ (c := c) (a := nI (k)) (s := 2) (r := (k + 1)) (g := (0 - ((σ c 2 (k)) - (σ c 4 (k))))) (hc := hc) (hr := by omega) (h := hb)) ?_
    refine lk_k3 ?_
    refine lk_cast (pc' := 25) (S' := [lk_vi 1]) rfl rfl rfl ?_
    refine lk_if_eq (tgt := 30) dX0_fills_25 (by decide) (fun h1 => absurd h1 (by decide)) (fun h1 => ?_)
    refine lk_iconst (v := 0) dX0_fills_28 (by decide) ?_
    refine lk_iret .boolean dX0_fills_29 rfl rfl ?_
    rw [hQ]
    rw [lk_fil, if_neg (by rw [hb]; decide)] at h
    cases h
    exact ⟨rfl, rfl, rfl⟩
  ·
    refine lk_callV (o := c) (as := [lk_vi (nI (k)), lk_vi 2, lk_vi (nI (k + 1)), lk_vi (0 - ((σ c 2 (k)) - (σ c 4 (k))))]) (S := []) dX0_fills_22 rfl vX0_isBarred rfl lX0_91 hc rfl (Nat.le_of_ble_eq_true rfl) (tX0_isBarred_ok l X d σ τ (c := c) (a := nI (k)) (s := 2) (r := (k + 1)) (g := (0 - ((σ c 2 (k)) - (σ c 4 (k))))) (hc := hc) (hr := by omega) (h := hb)) ?_
    refine lk_k3 ?_
    refine lk_cast (pc' := 25) (S' := [lk_vi 0]) rfl rfl rfl ?_
    refine lk_if_eq (tgt := 30) dX0_fills_25 (by decide) (fun h2 => ?_) (fun h2 => absurd h2 (by decide))
    refine lk_aload_n dX0_fills_30 rfl rfl ?_
    refine lk_getR (f := 6) dX0_fills_31 hc fX0_25 (by decide) (by decide) ?_
    refine lk_iload_n dX0_fills_34 rfl rfl ?_
    refine lk_iconst (v := 1) dX0_fills_35 (by decide) ?_
    refine lk_iaddN (a := k) (b := 1) dX0_fills_36 ?_
    refine lk_dup2 dX0_fills_37 rfl rfl ?_
    refine lk_ialdN (f := 6) (i := k + 1) dX0_fills_38 hc (by decide) rfl (by omega) (by decide) ?_
    refine lk_iload_n dX0_fills_39 rfl rfl ?_
    refine lk_isub dX0_fills_40 ?_
    refine lk_iastN (f := 6) (i := k + 1) (v := ((σ c 6 (k + 1)) - ((σ c 2 (k)) - (σ c 4 (k))))) dX0_fills_41 hc (by decide) rfl (by omega) (by decide) ?_
    refine lk_aload_n dX0_fills_42 rfl rfl ?_
    refine lk_getR (f := 4) dX0_fills_43 hc fX0_18 (by decide) (by decide) ?_
    refine lk_iload_n dX0_fills_46 rfl rfl ?_
    refine lk_iconst (v := 0) dX0_fills_47 (by decide) ?_
    refine lk_iastN (f := 4) (i := k) (v := 0) dX0_fills_48 hc (by decide) rfl (by omega) (by decide) ?_
    refine lk_aload_n dX0_fills_49 rfl rfl ?_
    refine lk_getR (f := 5) dX0_fills_50 hc fX0_21 (by decide) (by decide) ?_
    refine lk_iload_n dX0_fills_53 rfl rfl ?_
    refine lk_iconst (v := 1) dX0_fills_54 (by decide) ?_
    refine lk_zastN (f := 5) (i := k) (v := 1) dX0_fills_55 hc (by decide) rfl (by omega) (by decide) (by decide) ?_
    refine lk_iconst (v := 1) dX0_fills_56 (by decide) ?_
    refine lk_iret .boolean dX0_fills_57 rfl rfl ?_
    rw [hQ]
    rw [lk_fil, if_pos hb] at h
    cases h

set_option maxHeartbeats 4000000 in
set_option maxRecDepth 100000 in
theorem tX0_empties_ok (l : Launch) (X : lk_G) (d : Nat) (σ : lk_N) (τ : lk_T) (c : Nat) (hc : lk_ko c = 0) (k : Nat) (hk : k < 6) (hp : ¬ σ c 3 k + 2 = 0) (V : lk_O) (h : lk_emp (σ c) k = .inl V) : lk_Mt l X mX0_empties (d + 1) [lk_vr c 0, lk_vi (nI (k))] σ τ (fun rr σ1 τ1 => rr = some (lk_vi 1) ∧ σ1 = lk_so σ c V ∧ τ1 = τ) := by
  refine lk_met (L := [(0, lk_vr c 0), (1, lk_vi (nI (k)))]) (by decide +kernel) (Nat.le_of_ble_eq_true rfl) rfl ?_
  obtain ⟨Q, hQ⟩ : ∃ Q : lk_Q, Q = fun rr σ1 τ1 => rr = some (lk_vi 1) ∧ σ1 = lk_so σ c V ∧ τ1 = τ := ⟨_, rfl⟩
  rw [← hQ]
  refine lk_aload_n dX0_empties_0 rfl rfl ?_
  refine lk_iload_n dX0_empties_1 rfl rfl ?_
  refine lk_callV (o := c) (as := [lk_vi (nI (k))]) (S := []) dX0_empties_2 rfl vX0_share rfl lX0_72 hc rfl (Nat.le_of_ble_eq_true rfl) (tX0_share l X d σ τ (c := c) (k := (k)) (hc := hc) (hk := hk) (hp := hp)) ?_
  refine lk_k3 ?_
  refine lk_cast (pc' := 5) (S' := [lk_vi (lk_shr (σ c) (k))]) rfl rfl rfl ?_
  refine lk_istore_n (L' := [(0, lk_vr c 0), (1, lk_vi (nI (k))), (2, lk_vi (lk_shr (σ c) (k)))]) dX0_empties_5 rfl (by decide +kernel) rfl ?_
  refine lk_aload_n dX0_empties_6 rfl rfl ?_
  refine lk_getR (f := 2) dX0_empties_7 hc fX0_9 (by decide) (by decide) ?_
  refine lk_iload_n dX0_empties_10 rfl rfl ?_
  refine lk_ialdN (f := 2) (i := k) dX0_empties_11 hc (by decide) rfl (by omega) (by decide) ?_
  refine lk_iload_n dX0_empties_12 rfl rfl ?_
  refine lk_isub dX0_empties_13 ?_
  refine lk_istore_n (L' := [(0, lk_vr c 0), (1, lk_vi (nI (k))), (2, lk_vi (lk_shr (σ c) (k))), (3, lk_vi ((σ c 2 (k)) - (lk_shr (σ c) (k))))]) dX0_empties_14 rfl (by decide +kernel) rfl ?_
  refine lk_aload_n dX0_empties_15 rfl rfl ?_
  refine lk_iload_n dX0_empties_16 rfl rfl ?_
  refine lk_iconst (v := 1) dX0_empties_17 (by decide) ?_
  refine lk_iload_n dX0_empties_18 rfl rfl ?_
  refine lk_iload_n dX0_empties_19 rfl rfl ?_
  rcases hb : lk_chk (σ c) (k) (σ c 2 (k) - lk_shr (σ c) k) with _ | _
  ·
    refine lk_callV (o := c) (as := [lk_vi (nI (k)), lk_vi 1, lk_vi (nI (k)), lk_vi ((σ c 2 (k)) - (lk_shr (σ c) (k)))]) (S := []) dX0_empties_20 rfl vX0_isBarred rfl lX0_91 hc rfl (Nat.le_of_ble_eq_true rfl) (tX0_isBarred_no l X d σ τ (c := c) (a := nI (k)) (s := 1) (r := (k)) (g := ((σ c 2 (k)) - (lk_shr (σ c) (k)))) (hc := hc) (hr := by omega) (h := hb)) ?_
    refine lk_k3 ?_
    refine lk_cast (pc' := 23) (S' := [lk_vi 1]) rfl rfl rfl ?_
    refine lk_if_eq (tgt := 28) dX0_empties_23 (by decide) (fun h1 => absurd h1 (by decide)) (fun h1 => ?_)
    refine lk_iconst (v := 0) dX0_empties_26 (by decide) ?_
    refine lk_iret .boolean dX0_empties_27 rfl rfl ?_
    rw [hQ]
    rw [lk_emp, if_neg (by rw [hb]; decide)] at h
    cases h
  ·
    refine lk_callV (o := c) (as := [lk_vi (nI (k)), lk_vi 1, lk_vi (nI (k)), lk_vi ((σ c 2 (k)) - (lk_shr (σ c) (k)))]) (S := []) dX0_empties_20 rfl vX0_isBarred rfl lX0_91 hc rfl (Nat.le_of_ble_eq_true rfl) (tX0_isBarred_ok l X d σ τ (c := c) (a := nI (k)) (s := 1) (r := (k)) (g := ((σ c 2 (k)) - (lk_shr (σ c) (k)))) (hc := hc) (hr := by omega) (h := hb)) ?_
    refine lk_k3 ?_
    refine lk_cast (pc' := 23) (S' := [lk_vi 0]) rfl rfl rfl ?_
    refine lk_if_eq (tgt := 28) dX0_empties_23 (by decide) (fun h2 => ?_) (fun h2 => absurd h2 (by decide))
    refine lk_aload_n dX0_empties_28 rfl rfl ?_
    refine lk_getR (f := 6) dX0_empties_29 hc fX0_25 (by decide) (by decide) ?_
    refine lk_iload_n dX0_empties_32 rfl rfl ?_
    refine lk_dup2 dX0_empties_33 rfl rfl ?_
    refine lk_ialdN (f := 6) (i := k) dX0_empties_34 hc (by decide) rfl (by omega) (by decide) ?_
    refine lk_iload_n dX0_empties_35 rfl rfl ?_
    refine lk_iadd dX0_empties_36 ?_
    refine lk_iastN (f := 6) (i := k) (v := ((σ c 6 (k)) + ((σ c 2 (k)) - (lk_shr (σ c) (k))))) dX0_empties_37 hc (by decide) rfl (by omega) (by decide) ?_
    refine lk_aload_n dX0_empties_38 rfl rfl ?_
    refine lk_getR (f := 4) dX0_empties_39 hc fX0_18 (by decide) (by decide) ?_
    refine lk_iload_n dX0_empties_42 rfl rfl ?_
    refine lk_iload_n dX0_empties_43 rfl rfl ?_
    refine lk_iastN (f := 4) (i := k) (v := (lk_shr (σ c) (k))) dX0_empties_44 hc (by decide) rfl (by omega) (by decide) ?_
    refine lk_aload_n dX0_empties_45 rfl rfl ?_
    refine lk_getR (f := 5) dX0_empties_46 hc fX0_21 (by decide) (by decide) ?_
    refine lk_iload_n dX0_empties_49 rfl rfl ?_
    refine lk_iconst (v := 0) dX0_empties_50 (by decide) ?_
    refine lk_zastN (f := 5) (i := k) (v := 0) dX0_empties_51 hc (by decide) rfl (by omega) (by decide) (by decide) ?_
    refine lk_iconst (v := 1) dX0_empties_52 (by decide) ?_
    refine lk_iret .boolean dX0_empties_53 rfl rfl ?_
    rw [hQ]
    refine ⟨rfl, ?_, rfl⟩
    rw [lk_emp, if_pos hb] at h
    cases h
    simp [lk_up_so, lk_so_so, lk_so_eq, lk_ou]

set_option maxHeartbeats 4000000 in
set_option maxRecDepth 100000 in
theorem tX0_empties_no (l : Launch) (X : lk_G) (d : Nat) (σ : lk_N) (τ : lk_T) (c : Nat) (hc : lk_ko c = 0) (k : Nat) (hk : k < 6) (hp : ¬ σ c 3 k + 2 = 0) (q : Int32 × Nat × Int32) (h : lk_emp (σ c) k = .inr q) : lk_Mt l X mX0_empties (d + 1) [lk_vr c 0, lk_vi (nI (k))] σ τ (fun rr σ1 τ1 => rr = some (lk_vi 0) ∧ σ1 = lk_so σ (c + 2) (lk_kau (σ (c + 2)) (nI k) q) ∧ τ1 = τ) := by
  refine lk_met (L := [(0, lk_vr c 0), (1, lk_vi (nI (k)))]) (by decide +kernel) (Nat.le_of_ble_eq_true rfl) rfl ?_
  obtain ⟨Q, hQ⟩ : ∃ Q : lk_Q, Q = fun rr σ1 τ1 => rr = some (lk_vi 0) ∧ σ1 = lk_so σ (c + 2) (lk_kau (σ (c + 2)) (nI k) q) ∧ τ1 = τ := ⟨_, rfl⟩
  rw [← hQ]
  refine lk_aload_n dX0_empties_0 rfl rfl ?_
  refine lk_iload_n dX0_empties_1 rfl rfl ?_
  refine lk_callV (o := c) (as := [lk_vi (nI (k))]) (S := []) dX0_empties_2 rfl vX0_share rfl lX0_72 hc rfl (Nat.le_of_ble_eq_true rfl) (tX0_share l X d σ τ (c := c) (k := (k)) (hc := hc) (hk := hk) (hp := hp)) ?_
  refine lk_k3 ?_
  refine lk_cast (pc' := 5) (S' := [lk_vi (lk_shr (σ c) (k))]) rfl rfl rfl ?_
  refine lk_istore_n (L' := [(0, lk_vr c 0), (1, lk_vi (nI (k))), (2, lk_vi (lk_shr (σ c) (k)))]) dX0_empties_5 rfl (by decide +kernel) rfl ?_
  refine lk_aload_n dX0_empties_6 rfl rfl ?_
  refine lk_getR (f := 2) dX0_empties_7 hc fX0_9 (by decide) (by decide) ?_
  refine lk_iload_n dX0_empties_10 rfl rfl ?_
  refine lk_ialdN (f := 2) (i := k) dX0_empties_11 hc (by decide) rfl (by omega) (by decide) ?_
  refine lk_iload_n dX0_empties_12 rfl rfl ?_
  refine lk_isub dX0_empties_13 ?_
  refine lk_istore_n (L' := [(0, lk_vr c 0), (1, lk_vi (nI (k))), (2, lk_vi (lk_shr (σ c) (k))), (3, lk_vi ((σ c 2 (k)) - (lk_shr (σ c) (k))))]) dX0_empties_14 rfl (by decide +kernel) rfl ?_
  refine lk_aload_n dX0_empties_15 rfl rfl ?_
  refine lk_iload_n dX0_empties_16 rfl rfl ?_
  refine lk_iconst (v := 1) dX0_empties_17 (by decide) ?_
  refine lk_iload_n dX0_empties_18 rfl rfl ?_
  refine lk_iload_n dX0_empties_19 rfl rfl ?_
  rcases hb : lk_chk (σ c) (k) (σ c 2 (k) - lk_shr (σ c) k) with _ | _
  ·
    refine lk_callV (o := c) (as := [lk_vi (nI (k)), lk_vi 1, lk_vi (nI (k)), lk_vi ((σ c 2 (k)) - (lk_shr (σ c) (k)))]) (S := []) dX0_empties_20 rfl vX0_isBarred rfl lX0_91 hc rfl (Nat.le_of_ble_eq_true rfl) (tX0_isBarred_no l X d σ τ (c := c) (a := nI (k)) (s := 1) (r := (k)) (g := ((σ c 2 (k)) - (lk_shr (σ c) (k)))) (hc := hc) (hr := by omega) (h := hb)) ?_
    refine lk_k3 ?_
    refine lk_cast (pc' := 23) (S' := [lk_vi 1]) rfl rfl rfl ?_
    refine lk_if_eq (tgt := 28) dX0_empties_23 (by decide) (fun h1 => absurd h1 (by decide)) (fun h1 => ?_)
    refine lk_iconst (v := 0) dX0_empties_26 (by decide) ?_
    refine lk_iret .boolean dX0_empties_27 rfl rfl ?_
    rw [hQ]
    rw [lk_emp, if_neg (by rw [hb]; decide)] at h
    cases h
    exact ⟨rfl, rfl, rfl⟩
  ·
    refine lk_callV (o := c) (as := [lk_vi (nI (k)), lk_vi 1, lk_vi (nI (k)), lk_vi ((σ c 2 (k)) - (lk_shr (σ c) (k)))]) (S := []) dX0_empties_20 rfl vX0_isBarred rfl lX0_91 hc rfl (Nat.le_of_ble_eq_true rfl) (tX0_isBarred_ok l X d σ τ (c := c) (a := nI (k)) (s := 1) (r := (k)) (g := ((σ c 2 (k)) - (lk_shr (σ c) (k)))) (hc := hc) (hr := by omega) (h := hb)) ?_
    refine lk_k3 ?_
    refine lk_cast (pc' := 23) (S' := [lk_vi 0]) rfl rfl rfl ?_
    refine lk_if_eq (tgt := 28) dX0_empties_23 (by decide) (fun h2 => ?_) (fun h2 => absurd h2 (by decide))
    refine lk_aload_n dX0_empties_28 rfl rfl ?_
    refine lk_getR (f := 6) dX0_empties_29 hc fX0_25 (by decide) (by decide) ?_
    refine lk_iload_n dX0_empties_32 rfl rfl ?_
    refine lk_dup2 dX0_empties_33 rfl rfl ?_
    refine lk_ialdN (f := 6) (i := k) dX0_empties_34 hc (by decide) rfl (by omega) (by decide) ?_
    refine lk_iload_n dX0_empties_35 rfl rfl ?_
    refine lk_iadd dX0_empties_36 ?_
    refine lk_iastN (f := 6) (i := k) (v := ((σ c 6 (k)) + ((σ c 2 (k)) - (lk_shr (σ c) (k))))) dX0_empties_37 hc (by decide) rfl (by omega) (by decide) ?_
    refine lk_aload_n dX0_empties_38 rfl rfl ?_
    refine lk_getR (f := 4) dX0_empties_39 hc fX0_18 (by decide) (by decide) ?_
    refine lk_iload_n dX0_empties_42 rfl rfl ?_
    refine lk_iload_n dX0_empties_43 rfl rfl ?_
    refine lk_iastN (f := 4) (i := k) (v := (lk_shr (σ c) (k))) dX0_empties_44 hc (by decide) rfl (by omega) (by decide) ?_
    refine lk_aload_n dX0_empties_45 rfl rfl ?_
    refine lk_getR (f := 5) dX0_empties_46 hc fX0_21 (by decide) (by decide) ?_
    refine lk_iload_n dX0_empties_49 rfl rfl ?_
    refine lk_iconst (v := 0) dX0_empties_50 (by decide) ?_
    refine lk_zastN (f := 5) (i := k) (v := 0) dX0_empties_51 hc (by decide) rfl (by omega) (by decide) (by decide) ?_
    refine lk_iconst (v := 1) dX0_empties_52 (by decide) ?_
    refine lk_iret .boolean dX0_empties_53 rfl rfl ?_
    rw [hQ]
    rw [lk_emp, if_pos hb] at h
    cases h

set_option maxHeartbeats 4000000 in
set_option maxRecDepth 100000 in
theorem tX0_swaps_ok (l : Launch) (X : lk_G) (d : Nat) (σ : lk_N) (τ : lk_T) (c : Nat) (hc : lk_ko c = 0) (k : Nat) (hk : k < 6) (z : Int32) (V : lk_O) (h : lk_swp (σ c) k z = .inl V) : lk_Mt l X mX0_swaps (d + 1) [lk_vr c 0, lk_vi (nI (k)), lk_vi (z)] σ τ (fun rr σ1 τ1 => rr = some (lk_vi 1) ∧ σ1 = lk_so σ c V ∧ τ1 = τ) := by
  refine lk_met (L := [(0, lk_vr c 0), (1, lk_vi (nI (k))), (2, lk_vi (z))]) (by decide +kernel) (Nat.le_of_ble_eq_true rfl) rfl ?_
  obtain ⟨Q, hQ⟩ : ∃ Q : lk_Q, Q = fun rr σ1 τ1 => rr = some (lk_vi 1) ∧ σ1 = lk_so σ c V ∧ τ1 = τ := ⟨_, rfl⟩
  rw [← hQ]
  refine lk_aload_n dX0_swaps_0 rfl rfl ?_
  refine lk_iload_n dX0_swaps_1 rfl rfl ?_
  refine lk_iconst (v := 3) dX0_swaps_2 (by decide) ?_
  refine lk_iload_n dX0_swaps_3 rfl rfl ?_
  refine lk_iconst (v := 1) dX0_swaps_4 (by decide) ?_
  refine lk_iaddN (a := k) (b := 1) dX0_swaps_5 ?_
  refine lk_iload_n dX0_swaps_6 rfl rfl ?_
  refine lk_ineg dX0_swaps_7 ?_
  rcases hb : lk_chk (σ c) (k + 1) (0 - (z)) with _ | _
  ·
    refine lk_callV (o := c) (as := [lk_vi (nI (k)), lk_vi 3, lk_vi (nI (k + 1)), lk_vi (0 - (z))]) (S := []) dX0_swaps_8 rfl vX0_isBarred rfl lX0_91 hc rfl (Nat.le_of_ble_eq_true rfl) (tX0_isBarred_no l X d σ τ (c := c) (a := nI (k)) (s := 3) (r := (k + 1)) (g := (0 - (z))) (hc := hc) (hr := by omega) (h := hb)) ?_
    refine lk_k3 ?_
    refine lk_cast (pc' := 11) (S' := [lk_vi 1]) rfl rfl rfl ?_
    refine lk_if_ne (tgt := 25) dX0_swaps_11 (by decide) (fun h1 => ?_) (fun h1 => absurd h1 (by decide))
    refine lk_iconst (v := 0) dX0_swaps_25 (by decide) ?_
    refine lk_iret .boolean dX0_swaps_26 rfl rfl ?_
    rw [hQ]
    first | (rw [lk_swp, if_neg (by rw [hb]; decide)] at h; cases h; done) | (rw [lk_swp, if_pos hb, if_neg (by rw [hb2]; decide)] at h; cases h; done)
  ·
    refine lk_callV (o := c) (as := [lk_vi (nI (k)), lk_vi 3, lk_vi (nI (k + 1)), lk_vi (0 - (z))]) (S := []) dX0_swaps_8 rfl vX0_isBarred rfl lX0_91 hc rfl (Nat.le_of_ble_eq_true rfl) (tX0_isBarred_ok l X d σ τ (c := c) (a := nI (k)) (s := 3) (r := (k + 1)) (g := (0 - (z))) (hc := hc) (hr := by omega) (h := hb)) ?_
    refine lk_k3 ?_
    refine lk_cast (pc' := 11) (S' := [lk_vi 0]) rfl rfl rfl ?_
    refine lk_if_ne (tgt := 25) dX0_swaps_11 (by decide) (fun h2 => absurd h2 (by decide)) (fun h2 => ?_)
    refine lk_aload_n dX0_swaps_14 rfl rfl ?_
    refine lk_iload_n dX0_swaps_15 rfl rfl ?_
    refine lk_iconst (v := 3) dX0_swaps_16 (by decide) ?_
    refine lk_iload_n dX0_swaps_17 rfl rfl ?_
    refine lk_iload_n dX0_swaps_18 rfl rfl ?_
    rcases hb2 : lk_chk (σ c) (k) (z) with _ | _
    ·
      refine lk_callV (o := c) (as := [lk_vi (nI (k)), lk_vi 3, lk_vi (nI (k)), lk_vi (z)]) (S := []) dX0_swaps_19 rfl vX0_isBarred rfl lX0_91 hc rfl (Nat.le_of_ble_eq_true rfl) (tX0_isBarred_no l X d σ τ (c := c) (a := nI (k)) (s := 3) (r := (k)) (g := (z)) (hc := hc) (hr := by omega) (h := hb2)) ?_
      refine lk_k3 ?_
      refine lk_cast (pc' := 22) (S' := [lk_vi 1]) rfl rfl rfl ?_
      refine lk_if_eq (tgt := 27) dX0_swaps_22 (by decide) (fun h3 => absurd h3 (by decide)) (fun h3 => ?_)
      refine lk_iconst (v := 0) dX0_swaps_25 (by decide) ?_
      refine lk_iret .boolean dX0_swaps_26 rfl rfl ?_
      rw [hQ]
      first | (rw [lk_swp, if_neg (by rw [hb]; decide)] at h; cases h; done) | (rw [lk_swp, if_pos hb, if_neg (by rw [hb2]; decide)] at h; cases h; done)
    ·
      refine lk_callV (o := c) (as := [lk_vi (nI (k)), lk_vi 3, lk_vi (nI (k)), lk_vi (z)]) (S := []) dX0_swaps_19 rfl vX0_isBarred rfl lX0_91 hc rfl (Nat.le_of_ble_eq_true rfl) (tX0_isBarred_ok l X d σ τ (c := c) (a := nI (k)) (s := 3) (r := (k)) (g := (z)) (hc := hc) (hr := by omega) (h := hb2)) ?_
      refine lk_k3 ?_
      refine lk_cast (pc' := 22) (S' := [lk_vi 0]) rfl rfl rfl ?_
      refine lk_if_eq (tgt := 27) dX0_swaps_22 (by decide) (fun h4 => ?_) (fun h4 => absurd h4 (by decide))
      refine lk_aload_n dX0_swaps_27 rfl rfl ?_
      refine lk_getR (f := 6) dX0_swaps_28 hc fX0_25 (by decide) (by decide) ?_
      refine lk_iload_n dX0_swaps_31 rfl rfl ?_
      refine lk_iconst (v := 1) dX0_swaps_32 (by decide) ?_
      refine lk_iaddN (a := k) (b := 1) dX0_swaps_33 ?_
      refine lk_dup2 dX0_swaps_34 rfl rfl ?_
      refine lk_ialdN (f := 6) (i := k + 1) dX0_swaps_35 hc (by decide) rfl (by omega) (by decide) ?_
      refine lk_iload_n dX0_swaps_36 rfl rfl ?_
      refine lk_isub dX0_swaps_37 ?_
      refine lk_iastN (f := 6) (i := k + 1) (v := ((σ c 6 (k + 1)) - (z))) dX0_swaps_38 hc (by decide) rfl (by omega) (by decide) ?_
      refine lk_aload_n dX0_swaps_39 rfl rfl ?_
      refine lk_getR (f := 6) dX0_swaps_40 hc fX0_25 (by decide) (by decide) ?_
      refine lk_iload_n dX0_swaps_43 rfl rfl ?_
      refine lk_dup2 dX0_swaps_44 rfl rfl ?_
      refine lk_ialdN (f := 6) (i := k) dX0_swaps_45 hc (by decide) rfl (by omega) (by decide) ?_
      refine lk_iload_n dX0_swaps_46 rfl rfl ?_
      refine lk_iadd dX0_swaps_47 ?_
      refine lk_iastN (f := 6) (i := k) (v := (((lk_up σ c 6 (k + 1) ((σ c 6 (k + 1)) - (z))) c 6 (k)) + (z))) dX0_swaps_48 hc (by decide) rfl (by omega) (by decide) ?_
      refine lk_iconst (v := 1) dX0_swaps_49 (by decide) ?_
      refine lk_iret .boolean dX0_swaps_50 rfl rfl ?_
      rw [hQ]
      refine ⟨rfl, ?_, rfl⟩
      rw [lk_swp, if_pos hb, if_pos hb2] at h
      cases h
      simp [lk_up_so, lk_so_so, lk_so_eq, lk_ou]

set_option maxHeartbeats 4000000 in
set_option maxRecDepth 100000 in
theorem tX0_swaps_no (l : Launch) (X : lk_G) (d : Nat) (σ : lk_N) (τ : lk_T) (c : Nat) (hc : lk_ko c = 0) (k : Nat) (hk : k < 6) (z : Int32) (q : Int32 × Nat × Int32) (h : lk_swp (σ c) k z = .inr q) : lk_Mt l X mX0_swaps (d + 1) [lk_vr c 0, lk_vi (nI (k)), lk_vi (z)] σ τ (fun rr σ1 τ1 => rr = some (lk_vi 0) ∧ σ1 = lk_so σ (c + 2) (lk_kau (σ (c + 2)) (nI k) q) ∧ τ1 = τ) := by
  refine lk_met (L := [(0, lk_vr c 0), (1, lk_vi (nI (k))), (2, lk_vi (z))]) (by decide +kernel) (Nat.le_of_ble_eq_true rfl) rfl ?_
  obtain ⟨Q, hQ⟩ : ∃ Q : lk_Q, Q = fun rr σ1 τ1 => rr = some (lk_vi 0) ∧ σ1 = lk_so σ (c + 2) (lk_kau (σ (c + 2)) (nI k) q) ∧ τ1 = τ := ⟨_, rfl⟩
  rw [← hQ]
  refine lk_aload_n dX0_swaps_0 rfl rfl ?_
  refine lk_iload_n dX0_swaps_1 rfl rfl ?_
  refine lk_iconst (v := 3) dX0_swaps_2 (by decide) ?_
  refine lk_iload_n dX0_swaps_3 rfl rfl ?_
  refine lk_iconst (v := 1) dX0_swaps_4 (by decide) ?_
  refine lk_iaddN (a := k) (b := 1) dX0_swaps_5 ?_
  refine lk_iload_n dX0_swaps_6 rfl rfl ?_
  refine lk_ineg dX0_swaps_7 ?_
  rcases hb : lk_chk (σ c) (k + 1) (0 - (z)) with _ | _
  ·
    refine lk_callV (o := c) (as := [lk_vi (nI (k)), lk_vi 3, lk_vi (nI (k + 1)), lk_vi (0 - (z))]) (S := []) dX0_swaps_8 rfl vX0_isBarred rfl lX0_91 hc rfl (Nat.le_of_ble_eq_true rfl) (tX0_isBarred_no l X d σ τ (c := c) (a := nI (k)) (s := 3) (r := (k + 1)) (g := (0 - (z))) (hc := hc) (hr := by omega) (h := hb)) ?_
    refine lk_k3 ?_
    refine lk_cast (pc' := 11) (S' := [lk_vi 1]) rfl rfl rfl ?_
    refine lk_if_ne (tgt := 25) dX0_swaps_11 (by decide) (fun h1 => ?_) (fun h1 => absurd h1 (by decide))
    refine lk_iconst (v := 0) dX0_swaps_25 (by decide) ?_
    refine lk_iret .boolean dX0_swaps_26 rfl rfl ?_
    rw [hQ]
    first | (rw [lk_swp, if_neg (by rw [hb]; decide)] at h; cases h; exact ⟨rfl, rfl, rfl⟩) | (rw [lk_swp, if_pos hb, if_neg (by rw [hb2]; decide)] at h; cases h; exact ⟨rfl, rfl, rfl⟩)
  ·
    refine lk_callV (o := c) (as := [lk_vi (nI (k)), lk_vi 3, lk_vi (nI (k + 1)), lk_vi (0 - (z))]) (S := []) dX0_swaps_8 rfl vX0_isBarred rfl lX0_91 hc rfl (Nat.le_of_ble_eq_true rfl) (tX0_isBarred_ok l X d σ τ (c := c) (a := nI (k)) (s := 3) (r := (k + 1)) (g := (0 - (z))) (hc := hc) (hr := by omega) (h := hb)) ?_
    refine lk_k3 ?_
    refine lk_cast (pc' := 11) (S' := [lk_vi 0]) rfl rfl rfl ?_
    refine lk_if_ne (tgt := 25) dX0_swaps_11 (by decide) (fun h2 => absurd h2 (by decide)) (fun h2 => ?_)
    refine lk_aload_n dX0_swaps_14 rfl rfl ?_
    refine lk_iload_n dX0_swaps_15 rfl rfl ?_
    refine lk_iconst (v := 3) dX0_swaps_16 (by decide) ?_
    refine lk_iload_n dX0_swaps_17 rfl rfl ?_
    refine lk_iload_n dX0_swaps_18 rfl rfl ?_
    rcases hb2 : lk_chk (σ c) (k) (z) with _ | _
    ·
      refine lk_callV (o := c) (as := [lk_vi (nI (k)), lk_vi 3, lk_vi (nI (k)), lk_vi (z)]) (S := []) dX0_swaps_19 rfl vX0_isBarred rfl lX0_91 hc rfl (Nat.le_of_ble_eq_true rfl) (tX0_isBarred_no l X d σ τ (c := c) (a := nI (k)) (s := 3) (r := (k)) (g := (z)) (hc := hc) (hr := by omega) (h := hb2)) ?_
      refine lk_k3 ?_
      refine lk_cast (pc' := 22) (S' := [lk_vi 1]) rfl rfl rfl ?_
      refine lk_if_eq (tgt := 27) dX0_swaps_22 (by decide) (fun h3 => absurd h3 (by decide)) (fun h3 => ?_)
      refine lk_iconst (v := 0) dX0_swaps_25 (by decide) ?_
      refine lk_iret .boolean dX0_swaps_26 rfl rfl ?_
      rw [hQ]
      first | (rw [lk_swp, if_neg (by rw [hb]; decide)] at h; cases h; exact ⟨rfl, rfl, rfl⟩) | (rw [lk_swp, if_pos hb, if_neg (by rw [hb2]; decide)] at h; cases h; exact ⟨rfl, rfl, rfl⟩)
    ·
      refine lk_callV (o := c) (as := [lk_vi (nI (k)), lk_vi 3, lk_vi (nI (k)), lk_vi (z)]) (S := []) dX0_swaps_19 rfl vX0_isBarred rfl lX0_91 hc rfl (Nat.le_of_ble_eq_true rfl) (tX0_isBarred_ok l X d σ τ (c := c) (a := nI (k)) (s := 3) (r := (k)) (g := (z)) (hc := hc) (hr := by omega) (h := hb2)) ?_
      refine lk_k3 ?_
      refine lk_cast (pc' := 22) (S' := [lk_vi 0]) rfl rfl rfl ?_
      refine lk_if_eq (tgt := 27) dX0_swaps_22 (by decide) (fun h4 => ?_) (fun h4 => absurd h4 (by decide))
      refine lk_aload_n dX0_swaps_27 rfl rfl ?_
      refine lk_getR (f := 6) dX0_swaps_28 hc fX0_25 (by decide) (by decide) ?_
      refine lk_iload_n dX0_swaps_31 rfl rfl ?_
      refine lk_iconst (v := 1) dX0_swaps_32 (by decide) ?_
      refine lk_iaddN (a := k) (b := 1) dX0_swaps_33 ?_
      refine lk_dup2 dX0_swaps_34 rfl rfl ?_
      refine lk_ialdN (f := 6) (i := k + 1) dX0_swaps_35 hc (by decide) rfl (by omega) (by decide) ?_
      refine lk_iload_n dX0_swaps_36 rfl rfl ?_
      refine lk_isub dX0_swaps_37 ?_
      refine lk_iastN (f := 6) (i := k + 1) (v := ((σ c 6 (k + 1)) - (z))) dX0_swaps_38 hc (by decide) rfl (by omega) (by decide) ?_
      refine lk_aload_n dX0_swaps_39 rfl rfl ?_
      refine lk_getR (f := 6) dX0_swaps_40 hc fX0_25 (by decide) (by decide) ?_
      refine lk_iload_n dX0_swaps_43 rfl rfl ?_
      refine lk_dup2 dX0_swaps_44 rfl rfl ?_
      refine lk_ialdN (f := 6) (i := k) dX0_swaps_45 hc (by decide) rfl (by omega) (by decide) ?_
      refine lk_iload_n dX0_swaps_46 rfl rfl ?_
      refine lk_iadd dX0_swaps_47 ?_
      refine lk_iastN (f := 6) (i := k) (v := (((lk_up σ c 6 (k + 1) ((σ c 6 (k + 1)) - (z))) c 6 (k)) + (z))) dX0_swaps_48 hc (by decide) rfl (by omega) (by decide) ?_
      refine lk_iconst (v := 1) dX0_swaps_49 (by decide) ?_
      refine lk_iret .boolean dX0_swaps_50 rfl rfl ?_
      rw [hQ]
      rw [lk_swp, if_pos hb, if_pos hb2] at h
      cases h
