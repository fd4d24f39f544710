theorem lk_sub1 {n : Nat} (h : 1 ≤ n) (h2 : n < 2147483648) : nI n - 1 = nI (n - 1) := by
  apply Int32.toInt_inj.mp
  rw [Int32.toInt_sub, nI_toInt h2, nI_toInt (by omega), show (1 : Int32).toInt = 1 from rfl, Int.bmod_eq_of_le] <;> omega
set_option maxHeartbeats 1000000 in
set_option maxRecDepth 100000 in
theorem tX9_within (l : Launch) (X : lk_G) (d : Nat) (σ : lk_N) (τ : lk_T) (v a b : Int32) : lk_Mt l X mX9_within d [lk_vi (v), lk_vi (a), lk_vi (b)] σ τ (fun rr σ1 τ1 => rr = some (lk_vi (if a ≤ v ∧ v ≤ b then 1 else 0)) ∧ σ1 = σ ∧ τ1 = τ) := by
  refine lk_met (L := [(0, lk_vi (v)), (1, lk_vi (a)), (2, lk_vi (b))]) (by decide +kernel) (Nat.le_of_ble_eq_true rfl) rfl ?_
  obtain ⟨Q, hQ⟩ : ∃ Q : lk_Q, Q = fun rr σ1 τ1 => rr = some (lk_vi (if a ≤ v ∧ v ≤ b then 1 else 0)) ∧ σ1 = σ ∧ τ1 = τ := ⟨_, rfl⟩
  rw [← hQ]
  refine lk_iload_n dX9_within_0 rfl rfl ?_
  refine lk_iload_n dX9_within_1 rfl rfl ?_
  refine lk_icmp_lt (tgt := 14) dX9_within_2 (by decide) (fun hh1 => ?_) (fun hh1 => ?_)
  ·
    refine lk_iconst (v := 0) dX9_within_14 (by decide) ?_
    refine lk_iret .boolean dX9_within_15 rfl rfl ?_
    rw [hQ]
    refine ⟨?_, rfl, rfl⟩
    first | rw [if_pos ⟨by first | assumption | exact Int32.not_lt.mp (by assumption), by first | assumption | exact Int32.not_lt.mp (by assumption)⟩] | rw [if_neg (by rintro ⟨z1, z2⟩; first | contradiction | exact absurd z1 (Int32.not_le.mpr (by assumption)) | exact absurd z2 (Int32.not_le.mpr (by assumption)))]
  ·
    refine lk_iload_n dX9_within_5 rfl rfl ?_
    refine lk_iload_n dX9_within_6 rfl rfl ?_
    refine lk_icmp_gt (tgt := 14) dX9_within_7 (by decide) (fun hh2 => ?_) (fun hh2 => ?_)
    ·
      refine lk_iconst (v := 0) dX9_within_14 (by decide) ?_
      refine lk_iret .boolean dX9_within_15 rfl rfl ?_
      rw [hQ]
      refine ⟨?_, rfl, rfl⟩
      first | rw [if_pos ⟨by first | assumption | exact Int32.not_lt.mp (by assumption), by first | assumption | exact Int32.not_lt.mp (by assumption)⟩] | rw [if_neg (by rintro ⟨z1, z2⟩; first | contradiction | exact absurd z1 (Int32.not_le.mpr (by assumption)) | exact absurd z2 (Int32.not_le.mpr (by assumption)))]
    ·
      refine lk_iconst (v := 1) dX9_within_10 (by decide) ?_
      refine lk_goto (tgt := 15) dX9_within_11 (by decide) ?_
      refine lk_iret .boolean dX9_within_15 rfl rfl ?_
      rw [hQ]
      refine ⟨?_, rfl, rfl⟩
      first | rw [if_pos ⟨by first | assumption | exact Int32.not_lt.mp (by assumption), by first | assumption | exact Int32.not_lt.mp (by assumption)⟩] | rw [if_neg (by rintro ⟨z1, z2⟩; first | contradiction | exact absurd z1 (Int32.not_le.mpr (by assumption)) | exact absurd z2 (Int32.not_le.mpr (by assumption)))]

set_option maxHeartbeats 1000000 in
set_option maxRecDepth 100000 in
theorem tX9_becomes (l : Launch) (X : lk_G) (d : Nat) (σ : lk_N) (τ : lk_T) (f : Nat) (v : Int32) (hf : f < 235) : lk_Mt l X mX9_becomes d [lk_vr 1 0, lk_vi (nI (f)), lk_vi (v)] σ τ (fun rr σ1 τ1 => rr = some (lk_vi (σ 1 0 f)) ∧ σ1 = lk_up σ 1 0 f v ∧ τ1 = τ) := by
  refine lk_met (L := [(0, lk_vr 1 0), (1, lk_vi (nI (f))), (2, lk_vi (v))]) (by decide +kernel) (Nat.le_of_ble_eq_true rfl) rfl ?_
  obtain ⟨Q, hQ⟩ : ∃ Q : lk_Q, Q = fun rr σ1 τ1 => rr = some (lk_vi (σ 1 0 f)) ∧ σ1 = lk_up σ 1 0 f v ∧ τ1 = τ := ⟨_, rfl⟩
  rw [← hQ]
  refine lk_aload_n dX9_becomes_0 rfl rfl ?_
  refine lk_getR (f := 0) dX9_becomes_1 rfl fX9_9 (by decide) (by decide) ?_
  refine lk_iload_n dX9_becomes_4 rfl rfl ?_
  refine lk_ialdN (f := 0) (i := f) dX9_becomes_5 rfl (by decide) rfl (by omega) (by decide) ?_
  refine lk_istore_n (L' := [(0, lk_vr 1 0), (1, lk_vi (nI (f))), (2, lk_vi (v)), (3, lk_vi (σ 1 0 (f)))]) dX9_becomes_6 rfl (by decide +kernel) rfl ?_
  refine lk_aload_n dX9_becomes_7 rfl rfl ?_
  refine lk_getR (f := 0) dX9_becomes_8 rfl fX9_9 (by decide) (by decide) ?_
  refine lk_iload_n dX9_becomes_11 rfl rfl ?_
  refine lk_iload_n dX9_becomes_12 rfl rfl ?_
  refine lk_iastN (f := 0) (i := f) (v := (v)) dX9_becomes_13 rfl (by decide) rfl (by omega) (by decide) ?_
  refine lk_iload_n dX9_becomes_14 rfl rfl ?_
  refine lk_iret .int dX9_becomes_15 rfl rfl ?_
  rw [hQ]
  exact ⟨by first | rfl | (simp [*]; done) | (simp_all; done) | grind, by first | rfl | (simp [*]; done), rfl⟩

set_option maxHeartbeats 1000000 in
set_option maxRecDepth 100000 in
theorem tX9_isLock (l : Launch) (X : lk_G) (d : Nat) (σ : lk_N) (τ : lk_T) (k : Int32) : lk_Mt l X mX9_isLock (d + 1) [lk_vr 1 0, lk_vi (k)] σ τ (fun rr σ1 τ1 => rr = some (lk_vi (if (0 : Int32) ≤ k ∧ k ≤ σ 1 0 53 - 1 then 1 else 0)) ∧ σ1 = σ ∧ τ1 = τ) := by
  refine lk_met (L := [(0, lk_vr 1 0), (1, lk_vi (k))]) (by decide +kernel) (Nat.le_of_ble_eq_true rfl) rfl ?_
  obtain ⟨Q, hQ⟩ : ∃ Q : lk_Q, Q = fun rr σ1 τ1 => rr = some (lk_vi (if (0 : Int32) ≤ k ∧ k ≤ σ 1 0 53 - 1 then 1 else 0)) ∧ σ1 = σ ∧ τ1 = τ := ⟨_, rfl⟩
  rw [← hQ]
  refine lk_iload_n dX9_isLock_0 rfl rfl ?_
  refine lk_iconst (v := 0) dX9_isLock_1 (by decide) ?_
  refine lk_aload_n dX9_isLock_2 rfl rfl ?_
  refine lk_getR (f := 0) dX9_isLock_3 rfl fX9_9 (by decide) (by decide) ?_
  refine lk_bipush (v := 53) dX9_isLock_6 (by decide) ?_
  refine lk_ialdN (f := 0) (i := 53) dX9_isLock_8 rfl (by decide) rfl (by omega) (by decide) ?_
  refine lk_iconst (v := 1) dX9_isLock_9 (by decide) ?_
  refine lk_isub dX9_isLock_10 ?_
  refine lk_callS (as := [lk_vi (k), lk_vi 0, lk_vi ((σ 1 0 (53)) - 1)]) (S := []) dX9_isLock_11 rfl vX9_within rfl lX9_46 (Nat.le_of_ble_eq_true rfl) (tX9_within l X d σ τ (v := (k)) (a := 0) (b := ((σ 1 0 (53)) - 1)) ) ?_
  refine lk_k3 ?_
  refine lk_cast (pc' := 14) (S' := [lk_vi (if 0 ≤ (k) ∧ (k) ≤ ((σ 1 0 (53)) - 1) then 1 else 0)]) rfl rfl rfl ?_
  refine lk_iret .boolean dX9_isLock_14 rfl (lk_nb ()) ?_
  rw [hQ]
  exact ⟨by first | rfl | (simp [*]; done) | (simp_all; done) | grind, by first | rfl | (simp [*]; done), rfl⟩

set_option maxHeartbeats 1000000 in
set_option maxRecDepth 100000 in
theorem tX9_isReach (l : Launch) (X : lk_G) (d : Nat) (σ : lk_N) (τ : lk_T) (k : Int32) : lk_Mt l X mX9_isReach (d + 1) [lk_vr 1 0, lk_vi (k)] σ τ (fun rr σ1 τ1 => rr = some (lk_vi (if (0 : Int32) ≤ k ∧ k ≤ σ 1 0 53 then 1 else 0)) ∧ σ1 = σ ∧ τ1 = τ) := by
  refine lk_met (L := [(0, lk_vr 1 0), (1, lk_vi (k))]) (by decide +kernel) (Nat.le_of_ble_eq_true rfl) rfl ?_
  obtain ⟨Q, hQ⟩ : ∃ Q : lk_Q, Q = fun rr σ1 τ1 => rr = some (lk_vi (if (0 : Int32) ≤ k ∧ k ≤ σ 1 0 53 then 1 else 0)) ∧ σ1 = σ ∧ τ1 = τ := ⟨_, rfl⟩
  rw [← hQ]
  refine lk_iload_n dX9_isReach_0 rfl rfl ?_
  refine lk_iconst (v := 0) dX9_isReach_1 (by decide) ?_
  refine lk_aload_n dX9_isReach_2 rfl rfl ?_
  refine lk_getR (f := 0) dX9_isReach_3 rfl fX9_9 (by decide) (by decide) ?_
  refine lk_bipush (v := 53) dX9_isReach_6 (by decide) ?_
  refine lk_ialdN (f := 0) (i := 53) dX9_isReach_8 rfl (by decide) rfl (by omega) (by decide) ?_
  refine lk_callS (as := [lk_vi (k), lk_vi 0, lk_vi (σ 1 0 (53))]) (S := []) dX9_isReach_9 rfl vX9_within rfl lX9_46 (Nat.le_of_ble_eq_true rfl) (tX9_within l X d σ τ (v := (k)) (a := 0) (b := (σ 1 0 (53))) ) ?_
  refine lk_k3 ?_
  refine lk_cast (pc' := 12) (S' := [lk_vi (if 0 ≤ (k) ∧ (k) ≤ (σ 1 0 (53)) then 1 else 0)]) rfl rfl rfl ?_
  refine lk_iret .boolean dX9_isReach_12 rfl (lk_nb ()) ?_
  rw [hQ]
  exact ⟨by first | rfl | (simp [*]; done) | (simp_all; done) | grind, by first | rfl | (simp [*]; done), rfl⟩

set_option maxHeartbeats 1000000 in
set_option maxRecDepth 100000 in
theorem tX9_isBoat (l : Launch) (X : lk_G) (d : Nat) (σ : lk_N) (τ : lk_T) (k : Int32) : lk_Mt l X mX9_isBoat (d + 1) [lk_vr 1 0, lk_vi (k)] σ τ (fun rr σ1 τ1 => rr = some (lk_vi (if (0 : Int32) ≤ k ∧ k ≤ σ 1 0 114 - 1 then 1 else 0)) ∧ σ1 = σ ∧ τ1 = τ) := by
  refine lk_met (L := [(0, lk_vr 1 0), (1, lk_vi (k))]) (by decide +kernel) (Nat.le_of_ble_eq_true rfl) rfl ?_
  obtain ⟨Q, hQ⟩ : ∃ Q : lk_Q, Q = fun rr σ1 τ1 => rr = some (lk_vi (if (0 : Int32) ≤ k ∧ k ≤ σ 1 0 114 - 1 then 1 else 0)) ∧ σ1 = σ ∧ τ1 = τ := ⟨_, rfl⟩
  rw [← hQ]
  refine lk_iload_n dX9_isBoat_0 rfl rfl ?_
  refine lk_iconst (v := 0) dX9_isBoat_1 (by decide) ?_
  refine lk_aload_n dX9_isBoat_2 rfl rfl ?_
  refine lk_getR (f := 0) dX9_isBoat_3 rfl fX9_9 (by decide) (by decide) ?_
  refine lk_bipush (v := 114) dX9_isBoat_6 (by decide) ?_
  refine lk_ialdN (f := 0) (i := 114) dX9_isBoat_8 rfl (by decide) rfl (by omega) (by decide) ?_
  refine lk_iconst (v := 1) dX9_isBoat_9 (by decide) ?_
  refine lk_isub dX9_isBoat_10 ?_
  refine lk_callS (as := [lk_vi (k), lk_vi 0, lk_vi ((σ 1 0 (114)) - 1)]) (S := []) dX9_isBoat_11 rfl vX9_within rfl lX9_46 (Nat.le_of_ble_eq_true rfl) (tX9_within l X d σ τ (v := (k)) (a := 0) (b := ((σ 1 0 (114)) - 1)) ) ?_
  refine lk_k3 ?_
  refine lk_cast (pc' := 14) (S' := [lk_vi (if 0 ≤ (k) ∧ (k) ≤ ((σ 1 0 (114)) - 1) then 1 else 0)]) rfl rfl rfl ?_
  refine lk_iret .boolean dX9_isBoat_14 rfl (lk_nb ()) ?_
  rw [hQ]
  exact ⟨by first | rfl | (simp [*]; done) | (simp_all; done) | grind, by first | rfl | (simp [*]; done), rfl⟩

set_option maxHeartbeats 1000000 in
set_option maxRecDepth 100000 in
theorem tX9_share (l : Launch) (X : lk_G) (d : Nat) (σ : lk_N) (τ : lk_T) (k : Nat) (hk : k < 6) (hp : ¬ σ 1 0 (6 + k) + 2 = 0) : lk_Mt l X mX9_share d [lk_vr 1 0, lk_vi (nI (k))] σ τ (fun rr σ1 τ1 => rr = some (lk_vi (σ 1 0 k * σ 1 0 (6 + k) / (σ 1 0 (6 + k) + 2))) ∧ σ1 = σ ∧ τ1 = τ) := by
  refine lk_met (L := [(0, lk_vr 1 0), (1, lk_vi (nI (k)))]) (by decide +kernel) (Nat.le_of_ble_eq_true rfl) rfl ?_
  obtain ⟨Q, hQ⟩ : ∃ Q : lk_Q, Q = fun rr σ1 τ1 => rr = some (lk_vi (σ 1 0 k * σ 1 0 (6 + k) / (σ 1 0 (6 + k) + 2))) ∧ σ1 = σ ∧ τ1 = τ := ⟨_, rfl⟩
  rw [← hQ]
  refine lk_aload_n dX9_share_0 rfl rfl ?_
  refine lk_getR (f := 0) dX9_share_1 rfl fX9_9 (by decide) (by decide) ?_
  refine lk_iconst (v := 0) dX9_share_4 (by decide) ?_
  refine lk_iload_n dX9_share_5 rfl rfl ?_
  refine lk_iaddN (a := 0) (b := k) dX9_share_6 ?_
  refine lk_ialdN (f := 0) (i := 0 + k) dX9_share_7 rfl (by decide) rfl (by omega) (by decide) ?_
  refine lk_aload_n dX9_share_8 rfl rfl ?_
  refine lk_getR (f := 0) dX9_share_9 rfl fX9_9 (by decide) (by decide) ?_
  refine lk_bipush (v := 6) dX9_share_12 (by decide) ?_
  refine lk_iload_n dX9_share_14 rfl rfl ?_
  refine lk_iaddN (a := 6) (b := k) dX9_share_15 ?_
  refine lk_ialdN (f := 0) (i := 6 + k) dX9_share_16 rfl (by decide) rfl (by omega) (by decide) ?_
  refine lk_imul dX9_share_17 ?_
  refine lk_aload_n dX9_share_18 rfl rfl ?_
  refine lk_getR (f := 0) dX9_share_19 rfl fX9_9 (by decide) (by decide) ?_
  refine lk_bipush (v := 6) dX9_share_22 (by decide) ?_
  refine lk_iload_n dX9_share_24 rfl rfl ?_
  refine lk_iaddN (a := 6) (b := k) dX9_share_25 ?_
  refine lk_ialdN (f := 0) (i := 6 + k) dX9_share_26 rfl (by decide) rfl (by omega) (by decide) ?_
  refine lk_iconst (v := 2) dX9_share_27 (by decide) ?_
  refine lk_iadd dX9_share_28 ?_
  refine lk_idiv dX9_share_29 hp ?_
  refine lk_iret .int dX9_share_30 rfl rfl ?_
  rw [hQ]
  exact ⟨by first | rfl | (simp [*]; done) | (simp_all; done) | grind, by first | rfl | (simp [*]; done), rfl⟩

set_option maxHeartbeats 1000000 in
set_option maxRecDepth 100000 in
theorem tX9_feeds_ok (l : Launch) (X : lk_G) (d : Nat) (σ : lk_N) (τ : lk_T) (v : Int32) (h : 0 ≤ v ∧ v ≤ 999) : lk_Mt l X mX9_feeds (d + 1) [lk_vr 1 0, lk_vi (v)] σ τ (fun rr σ1 τ1 => rr = some (lk_vi (σ 1 0 52)) ∧ σ1 = lk_up σ 1 0 52 v ∧ τ1 = τ) := by
  refine lk_met (L := [(0, lk_vr 1 0), (1, lk_vi (v))]) (by decide +kernel) (Nat.le_of_ble_eq_true rfl) rfl ?_
  obtain ⟨Q, hQ⟩ : ∃ Q : lk_Q, Q = fun rr σ1 τ1 => rr = some (lk_vi (σ 1 0 52)) ∧ σ1 = lk_up σ 1 0 52 v ∧ τ1 = τ := ⟨_, rfl⟩
  rw [← hQ]
  refine lk_iload_n dX9_feeds_0 rfl rfl ?_
  refine lk_iconst (v := 0) dX9_feeds_1 (by decide) ?_
  refine lk_sipush (v := 999) dX9_feeds_2 (by decide) ?_
  refine lk_callS (as := [lk_vi (v), lk_vi 0, lk_vi 999]) (S := []) dX9_feeds_5 rfl vX9_within rfl lX9_46 (Nat.le_of_ble_eq_true rfl) (tX9_within l X d σ τ (v := (v)) (a := 0) (b := 999) ) ?_
  refine lk_k3 ?_
  refine lk_cast (pc' := 8) (S' := [lk_vi (if 0 ≤ (v) ∧ (v) ≤ 999 then 1 else 0)]) rfl rfl rfl ?_
  refine lk_if_eqB (tgt := 21) dX9_feeds_8 (by decide) (fun hh1 => absurd hh1 (by intro q; exact q h)) (fun hh1 => ?_)
  refine lk_aload_n dX9_feeds_11 rfl rfl ?_
  refine lk_bipush (v := 52) dX9_feeds_12 (by decide) ?_
  refine lk_iload_n dX9_feeds_14 rfl rfl ?_
  refine lk_callV (o := 1) (as := [lk_vi 52, lk_vi (v)]) (S := []) dX9_feeds_15 rfl vX9_becomes rfl lX9_54 rfl rfl (Nat.le_of_ble_eq_true rfl) (tX9_becomes l X d σ τ (f := (52)) (v := (v)) (hf := by decide)) ?_
  refine lk_k3 ?_
  refine lk_cast (pc' := 18) (S' := [lk_vi (σ 1 0 (52))]) rfl rfl rfl ?_
  refine lk_goto (tgt := 22) dX9_feeds_18 (by decide) ?_
  refine lk_iret .int dX9_feeds_22 rfl rfl ?_
  rw [hQ]
  exact ⟨by first | rfl | (simp [*]; done) | (simp_all; done) | grind, by first | rfl | (simp [*]; done), rfl⟩
