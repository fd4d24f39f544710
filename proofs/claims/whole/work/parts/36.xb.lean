def lk_rchk (V : lk_O) (w k : Nat) (v : Int32) : Bool := decide ((if w = 1 then v else V 7 k) ≤ (if w = 0 then v else V 6 k)) && decide ((if w = 0 then v else V 6 k) ≤ (if w = 2 then v else V 8 k))
set_option maxHeartbeats 1000000 in
set_option maxRecDepth 100000 in
theorem tX8_lock_out (l : Launch) (X : lk_G) (d : Nat) (σ : lk_N) (τ : lk_T) (k : Int32) (hk : k < 0 ∨ σ 2 0 0 ≤ k) (w v : Int32) : lk_Mt l X mX8_lock (d + 2) [lk_vr 0 0, lk_vi (k), lk_vi (w), lk_vi (v)] σ τ (fun rr σ1 τ1 => rr = some (lk_vi (-1)) ∧ σ1 = σ ∧ τ1 = τ) := by
  refine lk_met (L := [(0, lk_vr 0 0), (1, lk_vi (k)), (2, lk_vi (w)), (3, lk_vi (v))]) (by decide +kernel) (Nat.le_of_ble_eq_true rfl) rfl ?_
  obtain ⟨Q, hQ⟩ : ∃ Q : lk_Q, Q = fun rr σ1 τ1 => rr = some (lk_vi (-1)) ∧ σ1 = σ ∧ τ1 = τ := ⟨_, rfl⟩
  rw [← hQ]
  refine lk_aload_n dX8_lock_0 rfl rfl ?_
  refine lk_getO (f := 0) (o' := 2) dX8_lock_1 rfl fX8_14 (by decide) (by decide) rfl ?_
  refine lk_iload_n dX8_lock_4 rfl rfl ?_
  refine lk_callV (o := 2) (as := [lk_vi (k)]) (S := []) dX8_lock_5 rfl vX0_hasLock rfl lX8_79 rfl rfl (Nat.le_of_ble_eq_true rfl) (tX0_hasLock_out l X (d + 1) σ τ (c := 2) (k := (k)) (hc := rfl) (hk := hk)) ?_
  refine lk_k3 ?_
  refine lk_cast (pc' := 8) (S' := [lk_vi 0]) rfl rfl rfl ?_
  refine lk_if_eq (tgt := 19) dX8_lock_8 (by decide) (fun hh1 => ?_) (fun hh1 => absurd hh1 (by decide))
  refine lk_iconst (v := (-1)) dX8_lock_19 (by decide) ?_
  refine lk_iret .int dX8_lock_20 rfl rfl ?_
  rw [hQ]
  exact ⟨by first | rfl | (simp [*]; done) | (simp_all; done) | grind, by first | rfl | (simp [*]; done), rfl⟩

set_option maxHeartbeats 1000000 in
set_option maxRecDepth 100000 in
theorem tX8_lock_bad (l : Launch) (X : lk_G) (d : Nat) (σ : lk_N) (τ : lk_T) (n : Nat) (hV : lk_cok (σ 2) n) (k : Nat) (hk : k < n) (w v : Int32) (hs : lk_lset w v = false) : lk_Mt l X mX8_lock (d + 2) [lk_vr 0 0, lk_vi (nI (k)), lk_vi (w), lk_vi (v)] σ τ (fun rr σ1 τ1 => rr = some (lk_vi (-1)) ∧ σ1 = σ ∧ τ1 = τ) := by
  refine lk_met (L := [(0, lk_vr 0 0), (1, lk_vi (nI (k))), (2, lk_vi (w)), (3, lk_vi (v))]) (by decide +kernel) (Nat.le_of_ble_eq_true rfl) rfl ?_
  obtain ⟨Q, hQ⟩ : ∃ Q : lk_Q, Q = fun rr σ1 τ1 => rr = some (lk_vi (-1)) ∧ σ1 = σ ∧ τ1 = τ := ⟨_, rfl⟩
  rw [← hQ]
  refine lk_aload_n dX8_lock_0 rfl rfl ?_
  refine lk_getO (f := 0) (o' := 2) dX8_lock_1 rfl fX8_14 (by decide) (by decide) rfl ?_
  refine lk_iload_n dX8_lock_4 rfl rfl ?_
  refine lk_callV (o := 2) (as := [lk_vi (nI (k))]) (S := []) dX8_lock_5 rfl vX0_hasLock rfl lX8_79 rfl rfl (Nat.le_of_ble_eq_true rfl) (tX0_hasLock_in l X (d + 1) σ τ (c := 2) (k := (k)) (hc := rfl) (n := n) (hn := hV.1) (hk := hk) (hn6 := hV.2.2.1)) ?_
  refine lk_k3 ?_
  refine lk_cast (pc' := 8) (S' := [lk_vi 1]) rfl rfl rfl ?_
  refine lk_if_eq (tgt := 19) dX8_lock_8 (by decide) (fun hh1 => absurd hh1 (by decide)) (fun hh1 => ?_)
  refine lk_iload_n dX8_lock_11 rfl rfl ?_
  refine lk_iload_n dX8_lock_12 rfl rfl ?_
  refine lk_callS (as := [lk_vi (w), lk_vi (v)]) (S := []) dX8_lock_13 rfl vX8_isLockSetting rfl lX8_83 (Nat.le_of_ble_eq_true rfl) (tX8_isLockSetting l X (d + 1) σ τ (w := (w)) (v := (v)) ) ?_
  refine lk_k3 ?_
  refine lk_cast (pc' := 16) (S' := [lk_vi (if lk_lset (w) (v) = true then 1 else 0)]) rfl rfl rfl ?_
  refine lk_if_neB (tgt := 21) dX8_lock_16 (by decide) (fun hh2 => absurd hh2 (by rw [hs]; decide)) (fun hh2 => ?_)
  refine lk_iconst (v := (-1)) dX8_lock_19 (by decide) ?_
  refine lk_iret .int dX8_lock_20 rfl rfl ?_
  rw [hQ]
  exact ⟨by first | rfl | (simp [*]; done) | (simp_all; done) | grind, by first | rfl | (simp [*]; done), rfl⟩

set_option maxHeartbeats 1000000 in
set_option maxRecDepth 100000 in
theorem tX8_lock_state (l : Launch) (X : lk_G) (d : Nat) (σ : lk_N) (τ : lk_T) (n : Nat) (hV : lk_cok (σ 2) n) (k : Nat) (hk : k < n) (w v : Int32) (hs : lk_lset w v = true) (hr : ¬ (σ 2 5 k = 0 ∧ σ 2 4 k = 0)) : lk_Mt l X mX8_lock (d + 2) [lk_vr 0 0, lk_vi (nI (k)), lk_vi (w), lk_vi (v)] σ τ (fun rr σ1 τ1 => rr = some (lk_vi (-5)) ∧ σ1 = σ ∧ τ1 = τ) := by
  refine lk_met (L := [(0, lk_vr 0 0), (1, lk_vi (nI (k))), (2, lk_vi (w)), (3, lk_vi (v))]) (by decide +kernel) (Nat.le_of_ble_eq_true rfl) rfl ?_
  obtain ⟨Q, hQ⟩ : ∃ Q : lk_Q, Q = fun rr σ1 τ1 => rr = some (lk_vi (-5)) ∧ σ1 = σ ∧ τ1 = τ := ⟨_, rfl⟩
  rw [← hQ]
  refine lk_aload_n dX8_lock_0 rfl rfl ?_
  refine lk_getO (f := 0) (o' := 2) dX8_lock_1 rfl fX8_14 (by decide) (by decide) rfl ?_
  refine lk_iload_n dX8_lock_4 rfl rfl ?_
  refine lk_callV (o := 2) (as := [lk_vi (nI (k))]) (S := []) dX8_lock_5 rfl vX0_hasLock rfl lX8_79 rfl rfl (Nat.le_of_ble_eq_true rfl) (tX0_hasLock_in l X (d + 1) σ τ (c := 2) (k := (k)) (hc := rfl) (n := n) (hn := hV.1) (hk := hk) (hn6 := hV.2.2.1)) ?_
  refine lk_k3 ?_
  refine lk_cast (pc' := 8) (S' := [lk_vi 1]) rfl rfl rfl ?_
  refine lk_if_eq (tgt := 19) dX8_lock_8 (by decide) (fun hh1 => absurd hh1 (by decide)) (fun hh1 => ?_)
  refine lk_iload_n dX8_lock_11 rfl rfl ?_
  refine lk_iload_n dX8_lock_12 rfl rfl ?_
  refine lk_callS (as := [lk_vi (w), lk_vi (v)]) (S := []) dX8_lock_13 rfl vX8_isLockSetting rfl lX8_83 (Nat.le_of_ble_eq_true rfl) (tX8_isLockSetting l X (d + 1) σ τ (w := (w)) (v := (v)) ) ?_
  refine lk_k3 ?_
  refine lk_cast (pc' := 16) (S' := [lk_vi (if lk_lset (w) (v) = true then 1 else 0)]) rfl rfl rfl ?_
  refine lk_if_neB (tgt := 21) dX8_lock_16 (by decide) (fun hh2 => ?_) (fun hh2 => absurd hh2 (by intro q; exact q hs))
  refine lk_aload_n dX8_lock_21 rfl rfl ?_
  refine lk_getO (f := 0) (o' := 2) dX8_lock_22 rfl fX8_14 (by decide) (by decide) rfl ?_
  refine lk_iload_n dX8_lock_25 rfl rfl ?_
  refine lk_callV (o := 2) (as := [lk_vi (nI (k))]) (S := []) dX8_lock_26 rfl vX0_isAtRest rfl lX8_87 rfl rfl (Nat.le_of_ble_eq_true rfl) (tX0_isAtRest l X (d + 1) σ τ (c := 2) (k := (k)) (hc := rfl) (hk := Nat.lt_of_lt_of_le hk hV.2.2.1)) ?_
  refine lk_k3 ?_
  refine lk_cast (pc' := 29) (S' := [lk_vi (if σ 2 5 (k) = 0 ∧ σ 2 4 (k) = 0 then 1 else 0)]) rfl rfl rfl ?_
  refine lk_if_neB (tgt := 35) dX8_lock_29 (by decide) (fun hh3 => absurd hh3 hr) (fun hh3 => ?_)
  refine lk_bipush (v := (-5)) dX8_lock_32 (by decide) ?_
  refine lk_iret .int dX8_lock_34 rfl rfl ?_
  rw [hQ]
  exact ⟨by first | rfl | (simp [*]; done) | (simp_all; done) | grind, by first | rfl | (simp [*]; done), rfl⟩

set_option maxHeartbeats 1000000 in
set_option maxRecDepth 100000 in
theorem tX8_lock_ok0 (l : Launch) (X : lk_G) (d : Nat) (σ : lk_N) (τ : lk_T) (n : Nat) (hV : lk_cok (σ 2) n) (k : Nat) (hk : k < n) (v : Int32) (hs : lk_lset 0 v = true) (hr : σ 2 5 k = 0 ∧ σ 2 4 k = 0) : lk_Mt l X mX8_lock (d + 2) [lk_vr 0 0, lk_vi (nI (k)), lk_vi 0, lk_vi (v)] σ τ (fun rr σ1 τ1 => rr = some (lk_vi (σ 2 2 k)) ∧ σ1 = lk_up σ 2 2 k v ∧ τ1 = τ) := by
  refine lk_met (L := [(0, lk_vr 0 0), (1, lk_vi (nI (k))), (2, lk_vi 0), (3, lk_vi (v))]) (by decide +kernel) (Nat.le_of_ble_eq_true rfl) rfl ?_
  obtain ⟨Q, hQ⟩ : ∃ Q : lk_Q, Q = fun rr σ1 τ1 => rr = some (lk_vi (σ 2 2 k)) ∧ σ1 = lk_up σ 2 2 k v ∧ τ1 = τ := ⟨_, rfl⟩
  rw [← hQ]
  have hk6 : k < 6 := Nat.lt_of_lt_of_le hk hV.2.2.1
  refine lk_aload_n dX8_lock_0 rfl rfl ?_
  refine lk_getO (f := 0) (o' := 2) dX8_lock_1 rfl fX8_14 (by decide) (by decide) rfl ?_
  refine lk_iload_n dX8_lock_4 rfl rfl ?_
  refine lk_callV (o := 2) (as := [lk_vi (nI (k))]) (S := []) dX8_lock_5 rfl vX0_hasLock rfl lX8_79 rfl rfl (Nat.le_of_ble_eq_true rfl) (tX0_hasLock_in l X (d + 1) σ τ (c := 2) (k := (k)) (hc := rfl) (n := n) (hn := hV.1) (hk := hk) (hn6 := hV.2.2.1)) ?_
  refine lk_k3 ?_
  refine lk_cast (pc' := 8) (S' := [lk_vi 1]) rfl rfl rfl ?_
  refine lk_if_eq (tgt := 19) dX8_lock_8 (by decide) (fun hh1 => absurd hh1 (by decide)) (fun hh1 => ?_)
  refine lk_iload_n dX8_lock_11 rfl rfl ?_
  refine lk_iload_n dX8_lock_12 rfl rfl ?_
  refine lk_callS (as := [lk_vi 0, lk_vi (v)]) (S := []) dX8_lock_13 rfl vX8_isLockSetting rfl lX8_83 (Nat.le_of_ble_eq_true rfl) (tX8_isLockSetting l X (d + 1) σ τ (w := 0) (v := (v)) ) ?_
  refine lk_k3 ?_
  refine lk_cast (pc' := 16) (S' := [lk_vi (if lk_lset 0 (v) = true then 1 else 0)]) rfl rfl rfl ?_
  refine lk_if_neB (tgt := 21) dX8_lock_16 (by decide) (fun hh2 => ?_) (fun hh2 => absurd hh2 (by intro q; exact q hs))
  refine lk_aload_n dX8_lock_21 rfl rfl ?_
  refine lk_getO (f := 0) (o' := 2) dX8_lock_22 rfl fX8_14 (by decide) (by decide) rfl ?_
  refine lk_iload_n dX8_lock_25 rfl rfl ?_
  refine lk_callV (o := 2) (as := [lk_vi (nI (k))]) (S := []) dX8_lock_26 rfl vX0_isAtRest rfl lX8_87 rfl rfl (Nat.le_of_ble_eq_true rfl) (tX0_isAtRest l X (d + 1) σ τ (c := 2) (k := (k)) (hc := rfl) (hk := Nat.lt_of_lt_of_le hk hV.2.2.1)) ?_
  refine lk_k3 ?_
  refine lk_cast (pc' := 29) (S' := [lk_vi (if σ 2 5 (k) = 0 ∧ σ 2 4 (k) = 0 then 1 else 0)]) rfl rfl rfl ?_
  refine lk_if_neB (tgt := 35) dX8_lock_29 (by decide) (fun hh3 => ?_) (fun hh3 => absurd hh3 (by intro q; exact q hr))
  refine lk_aload_n dX8_lock_35 rfl rfl ?_
  refine lk_getO (f := 0) (o' := 2) dX8_lock_36 rfl fX8_14 (by decide) (by decide) rfl ?_
  refine lk_iload_n dX8_lock_39 rfl rfl ?_
  refine lk_iload_n dX8_lock_40 rfl rfl ?_
  refine lk_callV (o := 2) (as := [lk_vi (nI (k)), lk_vi 0]) (S := []) dX8_lock_41 rfl vX0_lockNumber rfl lX8_90 rfl rfl (Nat.le_of_ble_eq_true rfl) (tX0_lockNumber l X d σ τ (c := 2) (k := (k)) (w := (0)) (hc := rfl) (hk := Nat.lt_of_lt_of_le hk hV.2.2.1) (hw := by omega) (hp := lk_lok_p (hV.2.2.2 k hk6))) ?_
  refine lk_k3 ?_
  refine lk_cast (pc' := 44) (S' := [lk_vi (lk_lnum (σ 2) (k) (0))]) rfl rfl rfl ?_
  refine lk_istore (L' := [(0, lk_vr 0 0), (1, lk_vi (nI (k))), (2, lk_vi 0), (3, lk_vi (v)), (4, lk_vi (lk_lnum (σ 2) (k) (0)))]) dX8_lock_44 (by decide +kernel) rfl ?_
  refine lk_iload_n dX8_lock_46 rfl rfl ?_
  refine lk_if_ne (tgt := 63) dX8_lock_47 (by decide) (fun hh4 => absurd hh4 (by decide)) (fun hh4 => ?_)
  refine lk_aload_n dX8_lock_50 rfl rfl ?_
  refine lk_getO (f := 0) (o' := 2) dX8_lock_51 rfl fX8_14 (by decide) (by decide) rfl ?_
  refine lk_getR (f := 2) dX8_lock_54 rfl fX8_94 (by decide) (by decide) ?_
  refine lk_iload_n dX8_lock_57 rfl rfl ?_
  refine lk_iload_n dX8_lock_58 rfl rfl ?_
  refine lk_iastN (f := 2) (i := k) (v := (v)) dX8_lock_59 rfl (by decide) rfl (by omega) (by decide) ?_
  refine lk_goto (tgt := 73) dX8_lock_60 (by decide) ?_
  refine lk_iload dX8_lock_73 rfl ?_
  refine lk_iret .int dX8_lock_75 rfl rfl ?_
  rw [hQ]
  exact ⟨by first | rfl | (simp [*]; done) | (simp_all; done) | grind, by first | rfl | (simp [*]; done), rfl⟩

set_option maxHeartbeats 1000000 in
set_option maxRecDepth 100000 in
theorem tX8_lock_ok1 (l : Launch) (X : lk_G) (d : Nat) (σ : lk_N) (τ : lk_T) (n : Nat) (hV : lk_cok (σ 2) n) (k : Nat) (hk : k < n) (v : Int32) (hs : lk_lset 1 v = true) (hr : σ 2 5 k = 0 ∧ σ 2 4 k = 0) : lk_Mt l X mX8_lock (d + 2) [lk_vr 0 0, lk_vi (nI (k)), lk_vi 1, lk_vi (v)] σ τ (fun rr σ1 τ1 => rr = some (lk_vi (σ 2 3 k)) ∧ σ1 = lk_up σ 2 3 k v ∧ τ1 = τ) := by
  refine lk_met (L := [(0, lk_vr 0 0), (1, lk_vi (nI (k))), (2, lk_vi 1), (3, lk_vi (v))]) (by decide +kernel) (Nat.le_of_ble_eq_true rfl) rfl ?_
  obtain ⟨Q, hQ⟩ : ∃ Q : lk_Q, Q = fun rr σ1 τ1 => rr = some (lk_vi (σ 2 3 k)) ∧ σ1 = lk_up σ 2 3 k v ∧ τ1 = τ := ⟨_, rfl⟩
  rw [← hQ]
  have hk6 : k < 6 := Nat.lt_of_lt_of_le hk hV.2.2.1
  refine lk_aload_n dX8_lock_0 rfl rfl ?_
  refine lk_getO (f := 0) (o' := 2) dX8_lock_1 rfl fX8_14 (by decide) (by decide) rfl ?_
  refine lk_iload_n dX8_lock_4 rfl rfl ?_
  refine lk_callV (o := 2) (as := [lk_vi (nI (k))]) (S := []) dX8_lock_5 rfl vX0_hasLock rfl lX8_79 rfl rfl (Nat.le_of_ble_eq_true rfl) (tX0_hasLock_in l X (d + 1) σ τ (c := 2) (k := (k)) (hc := rfl) (n := n) (hn := hV.1) (hk := hk) (hn6 := hV.2.2.1)) ?_
  refine lk_k3 ?_
  refine lk_cast (pc' := 8) (S' := [lk_vi 1]) rfl rfl rfl ?_
  refine lk_if_eq (tgt := 19) dX8_lock_8 (by decide) (fun hh1 => absurd hh1 (by decide)) (fun hh1 => ?_)
  refine lk_iload_n dX8_lock_11 rfl rfl ?_
  refine lk_iload_n dX8_lock_12 rfl rfl ?_
  refine lk_callS (as := [lk_vi 1, lk_vi (v)]) (S := []) dX8_lock_13 rfl vX8_isLockSetting rfl lX8_83 (Nat.le_of_ble_eq_true rfl) (tX8_isLockSetting l X (d + 1) σ τ (w := 1) (v := (v)) ) ?_
  refine lk_k3 ?_
  refine lk_cast (pc' := 16) (S' := [lk_vi (if lk_lset 1 (v) = true then 1 else 0)]) rfl rfl rfl ?_
  refine lk_if_neB (tgt := 21) dX8_lock_16 (by decide) (fun hh2 => ?_) (fun hh2 => absurd hh2 (by intro q; exact q hs))
  refine lk_aload_n dX8_lock_21 rfl rfl ?_
  refine lk_getO (f := 0) (o' := 2) dX8_lock_22 rfl fX8_14 (by decide) (by decide) rfl ?_
  refine lk_iload_n dX8_lock_25 rfl rfl ?_
  refine lk_callV (o := 2) (as := [lk_vi (nI (k))]) (S := []) dX8_lock_26 rfl vX0_isAtRest rfl lX8_87 rfl rfl (Nat.le_of_ble_eq_true rfl) (tX0_isAtRest l X (d + 1) σ τ (c := 2) (k := (k)) (hc := rfl) (hk := Nat.lt_of_lt_of_le hk hV.2.2.1)) ?_
  refine lk_k3 ?_
  refine lk_cast (pc' := 29) (S' := [lk_vi (if σ 2 5 (k) = 0 ∧ σ 2 4 (k) = 0 then 1 else 0)]) rfl rfl rfl ?_
  refine lk_if_neB (tgt := 35) dX8_lock_29 (by decide) (fun hh3 => ?_) (fun hh3 => absurd hh3 (by intro q; exact q hr))
  refine lk_aload_n dX8_lock_35 rfl rfl ?_
  refine lk_getO (f := 0) (o' := 2) dX8_lock_36 rfl fX8_14 (by decide) (by decide) rfl ?_
  refine lk_iload_n dX8_lock_39 rfl rfl ?_
  refine lk_iload_n dX8_lock_40 rfl rfl ?_
  refine lk_callV (o := 2) (as := [lk_vi (nI (k)), lk_vi 1]) (S := []) dX8_lock_41 rfl vX0_lockNumber rfl lX8_90 rfl rfl (Nat.le_of_ble_eq_true rfl) (tX0_lockNumber l X d σ τ (c := 2) (k := (k)) (w := (1)) (hc := rfl) (hk := Nat.lt_of_lt_of_le hk hV.2.2.1) (hw := by omega) (hp := lk_lok_p (hV.2.2.2 k hk6))) ?_
  refine lk_k3 ?_
  refine lk_cast (pc' := 44) (S' := [lk_vi (lk_lnum (σ 2) (k) (1))]) rfl rfl rfl ?_
  refine lk_istore (L' := [(0, lk_vr 0 0), (1, lk_vi (nI (k))), (2, lk_vi 1), (3, lk_vi (v)), (4, lk_vi (lk_lnum (σ 2) (k) (1)))]) dX8_lock_44 (by decide +kernel) rfl ?_
  refine lk_iload_n dX8_lock_46 rfl rfl ?_
  refine lk_if_ne (tgt := 63) dX8_lock_47 (by decide) (fun hh4 => ?_) (fun hh4 => absurd hh4 (by decide))
  refine lk_aload_n dX8_lock_63 rfl rfl ?_
  refine lk_getO (f := 0) (o' := 2) dX8_lock_64 rfl fX8_14 (by decide) (by decide) rfl ?_
  refine lk_getR (f := 3) dX8_lock_67 rfl fX8_98 (by decide) (by decide) ?_
  refine lk_iload_n dX8_lock_70 rfl rfl ?_
  refine lk_iload_n dX8_lock_71 rfl rfl ?_
  refine lk_iastN (f := 3) (i := k) (v := (v)) dX8_lock_72 rfl (by decide) rfl (by omega) (by decide) ?_
  refine lk_iload dX8_lock_73 rfl ?_
  refine lk_iret .int dX8_lock_75 rfl rfl ?_
  rw [hQ]
  exact ⟨by first | rfl | (simp [*]; done) | (simp_all; done) | grind, by first | rfl | (simp [*]; done), rfl⟩

set_option maxHeartbeats 1000000 in
set_option maxRecDepth 100000 in
theorem tX8_ofLock_out (l : Launch) (X : lk_G) (d : Nat) (σ : lk_N) (τ : lk_T) (k : Int32) (hk : k < 0 ∨ σ 2 0 0 ≤ k) (w : Int32) : lk_Mt l X mX8_ofLock (d + 2) [lk_vr 0 0, lk_vi (k), lk_vi (w)] σ τ (fun rr σ1 τ1 => rr = some (lk_vi (-1)) ∧ σ1 = σ ∧ τ1 = τ) := by
  refine lk_met (L := [(0, lk_vr 0 0), (1, lk_vi (k)), (2, lk_vi (w))]) (by decide +kernel) (Nat.le_of_ble_eq_true rfl) rfl ?_
  obtain ⟨Q, hQ⟩ : ∃ Q : lk_Q, Q = fun rr σ1 τ1 => rr = some (lk_vi (-1)) ∧ σ1 = σ ∧ τ1 = τ := ⟨_, rfl⟩
  rw [← hQ]
  refine lk_aload_n dX8_ofLock_0 rfl rfl ?_
  refine lk_getO (f := 0) (o' := 2) dX8_ofLock_1 rfl fX8_14 (by decide) (by decide) rfl ?_
  refine lk_iload_n dX8_ofLock_4 rfl rfl ?_
  refine lk_callV (o := 2) (as := [lk_vi (k)]) (S := []) dX8_ofLock_5 rfl vX0_hasLock rfl lX8_79 rfl rfl (Nat.le_of_ble_eq_true rfl) (tX0_hasLock_out l X (d + 1) σ τ (c := 2) (k := (k)) (hc := rfl) (hk := hk)) ?_
  refine lk_k3 ?_
  refine lk_cast (pc' := 8) (S' := [lk_vi 0]) rfl rfl rfl ?_
  refine lk_if_eq (tgt := 20) dX8_ofLock_8 (by decide) (fun hh1 => ?_) (fun hh1 => absurd hh1 (by decide))
  refine lk_iconst (v := (-1)) dX8_ofLock_20 (by decide) ?_
  refine lk_iret .int dX8_ofLock_21 rfl rfl ?_
  rw [hQ]
  exact ⟨by first | rfl | (simp [*]; done) | (simp_all; done) | grind, by first | rfl | (simp [*]; done), rfl⟩

set_option maxHeartbeats 1000000 in
set_option maxRecDepth 100000 in
theorem tX8_ofLock_bad (l : Launch) (X : lk_G) (d : Nat) (σ : lk_N) (τ : lk_T) (n : Nat) (hV : lk_cok (σ 2) n) (k : Nat) (hk : k < n) (w : Int32) (h : w < 0 ∨ 4 < w) : lk_Mt l X mX8_ofLock (d + 2) [lk_vr 0 0, lk_vi (nI (k)), lk_vi (w)] σ τ (fun rr σ1 τ1 => rr = some (lk_vi (-1)) ∧ σ1 = σ ∧ τ1 = τ) := by
  refine lk_met (L := [(0, lk_vr 0 0), (1, lk_vi (nI (k))), (2, lk_vi (w))]) (by decide +kernel) (Nat.le_of_ble_eq_true rfl) rfl ?_
  obtain ⟨Q, hQ⟩ : ∃ Q : lk_Q, Q = fun rr σ1 τ1 => rr = some (lk_vi (-1)) ∧ σ1 = σ ∧ τ1 = τ := ⟨_, rfl⟩
  rw [← hQ]
  refine lk_aload_n dX8_ofLock_0 rfl rfl ?_
  refine lk_getO (f := 0) (o' := 2) dX8_ofLock_1 rfl fX8_14 (by decide) (by decide) rfl ?_
  refine lk_iload_n dX8_ofLock_4 rfl rfl ?_
  refine lk_callV (o := 2) (as := [lk_vi (nI (k))]) (S := []) dX8_ofLock_5 rfl vX0_hasLock rfl lX8_79 rfl rfl (Nat.le_of_ble_eq_true rfl) (tX0_hasLock_in l X (d + 1) σ τ (c := 2) (k := (k)) (hc := rfl) (n := n) (hn := hV.1) (hk := hk) (hn6 := hV.2.2.1)) ?_
  refine lk_k3 ?_
  refine lk_cast (pc' := 8) (S' := [lk_vi 1]) rfl rfl rfl ?_
  refine lk_if_eq (tgt := 20) dX8_ofLock_8 (by decide) (fun hh1 => absurd hh1 (by decide)) (fun hh1 => ?_)
  refine lk_iload_n dX8_ofLock_11 rfl rfl ?_
  refine lk_if_lt (tgt := 20) dX8_ofLock_12 (by decide) (fun hh2 => ?_) (fun hh2 => ?_)
  ·
    refine lk_iconst (v := (-1)) dX8_ofLock_20 (by decide) ?_
    refine lk_iret .int dX8_ofLock_21 rfl rfl ?_
    rw [hQ]
    exact ⟨by first | rfl | (simp [*]; done) | (simp_all; done) | grind, by first | rfl | (simp [*]; done), rfl⟩
  ·
    refine lk_iload_n dX8_ofLock_15 rfl rfl ?_
    refine lk_iconst (v := 4) dX8_ofLock_16 (by decide) ?_
    refine lk_icmp_le (tgt := 22) dX8_ofLock_17 (by decide) (fun hh3 => ?_) (fun hh3 => ?_)
    ·
      exact absurd h (by rintro (z | z) <;> first | contradiction | exact absurd z (Int32.not_lt.mpr (by assumption)))
    ·
      refine lk_iconst (v := (-1)) dX8_ofLock_20 (by decide) ?_
      refine lk_iret .int dX8_ofLock_21 rfl rfl ?_
      rw [hQ]
      exact ⟨by first | rfl | (simp [*]; done) | (simp_all; done) | grind, by first | rfl | (simp [*]; done), rfl⟩

set_option maxHeartbeats 1000000 in
set_option maxRecDepth 100000 in
theorem tX8_ofLock_ok (l : Launch) (X : lk_G) (d : Nat) (σ : lk_N) (τ : lk_T) (n : Nat) (hV : lk_cok (σ 2) n) (k : Nat) (hk : k < n) (w : Nat) (hw : w ≤ 4) : lk_Mt l X mX8_ofLock (d + 2) [lk_vr 0 0, lk_vi (nI (k)), lk_vi (nI (w))] σ τ (fun rr σ1 τ1 => rr = some (lk_vi (lk_lnum (σ 2) k w)) ∧ σ1 = σ ∧ τ1 = τ) := by
  refine lk_met (L := [(0, lk_vr 0 0), (1, lk_vi (nI (k))), (2, lk_vi (nI (w)))]) (by decide +kernel) (Nat.le_of_ble_eq_true rfl) rfl ?_
  obtain ⟨Q, hQ⟩ : ∃ Q : lk_Q, Q = fun rr σ1 τ1 => rr = some (lk_vi (lk_lnum (σ 2) k w)) ∧ σ1 = σ ∧ τ1 = τ := ⟨_, rfl⟩
  rw [← hQ]
  have hk6 : k < 6 := Nat.lt_of_lt_of_le hk hV.2.2.1
  refine lk_aload_n dX8_ofLock_0 rfl rfl ?_
  refine lk_getO (f := 0) (o' := 2) dX8_ofLock_1 rfl fX8_14 (by decide) (by decide) rfl ?_
  refine lk_iload_n dX8_ofLock_4 rfl rfl ?_
  refine lk_callV (o := 2) (as := [lk_vi (nI (k))]) (S := []) dX8_ofLock_5 rfl vX0_hasLock rfl lX8_79 rfl rfl (Nat.le_of_ble_eq_true rfl) (tX0_hasLock_in l X (d + 1) σ τ (c := 2) (k := (k)) (hc := rfl) (n := n) (hn := hV.1) (hk := hk) (hn6 := hV.2.2.1)) ?_
  refine lk_k3 ?_
  refine lk_cast (pc' := 8) (S' := [lk_vi 1]) rfl rfl rfl ?_
  refine lk_if_eq (tgt := 20) dX8_ofLock_8 (by decide) (fun hh1 => absurd hh1 (by decide)) (fun hh1 => ?_)
  refine lk_iload_n dX8_ofLock_11 rfl rfl ?_
  refine lk_if_ltN (a := w) (tgt := 20) dX8_ofLock_12 (by decide) (by omega) (fun hh2 => absurd hh2 (by omega)) (fun hh2 => ?_)
  refine lk_iload_n dX8_ofLock_15 rfl rfl ?_
  refine lk_iconst (v := 4) dX8_ofLock_16 (by decide) ?_
  refine lk_icmp_leN (a := w) (b := 4) (tgt := 22) dX8_ofLock_17 (by decide) (by omega) (by omega) (fun hh3 => ?_) (fun hh3 => absurd hh3 (by omega))
  refine lk_aload_n dX8_ofLock_22 rfl rfl ?_
  refine lk_getO (f := 0) (o' := 2) dX8_ofLock_23 rfl fX8_14 (by decide) (by decide) rfl ?_
  refine lk_iload_n dX8_ofLock_26 rfl rfl ?_
  refine lk_iload_n dX8_ofLock_27 rfl rfl ?_
  refine lk_callV (o := 2) (as := [lk_vi (nI (k)), lk_vi (nI (w))]) (S := []) dX8_ofLock_28 rfl vX0_lockNumber rfl lX8_90 rfl rfl (Nat.le_of_ble_eq_true rfl) (tX0_lockNumber l X d σ τ (c := 2) (k := (k)) (w := (w)) (hc := rfl) (hk := Nat.lt_of_lt_of_le hk hV.2.2.1) (hw := hw) (hp := lk_lok_p (hV.2.2.2 k hk6))) ?_
  refine lk_k3 ?_
  refine lk_cast (pc' := 31) (S' := [lk_vi (lk_lnum (σ 2) (k) (w))]) rfl rfl rfl ?_
  refine lk_iret .int dX8_ofLock_31 rfl rfl ?_
  rw [hQ]
  exact ⟨by first | rfl | (simp [*]; done) | (simp_all; done) | grind, by first | rfl | (simp [*]; done), rfl⟩

set_option maxHeartbeats 1000000 in
set_option maxRecDepth 100000 in
theorem tX8_reach_out (l : Launch) (X : lk_G) (d : Nat) (σ : lk_N) (τ : lk_T) (k : Int32) (hk : k < 0 ∨ σ 2 0 0 < k) (w v : Int32) : lk_Mt l X mX8_reach (d + 1) [lk_vr 0 0, lk_vi (k), lk_vi (w), lk_vi (v)] σ τ (fun rr σ1 τ1 => rr = some (lk_vi (-1)) ∧ σ1 = σ ∧ τ1 = τ) := by
  refine lk_met (L := [(0, lk_vr 0 0), (1, lk_vi (k)), (2, lk_vi (w)), (3, lk_vi (v))]) (by decide +kernel) (Nat.le_of_ble_eq_true rfl) rfl ?_
  obtain ⟨Q, hQ⟩ : ∃ Q : lk_Q, Q = fun rr σ1 τ1 => rr = some (lk_vi (-1)) ∧ σ1 = σ ∧ τ1 = τ := ⟨_, rfl⟩
  rw [← hQ]
  refine lk_aload_n dX8_reach_0 rfl rfl ?_
  refine lk_getO (f := 0) (o' := 2) dX8_reach_1 rfl fX8_14 (by decide) (by decide) rfl ?_
  refine lk_iload_n dX8_reach_4 rfl rfl ?_
  refine lk_callV (o := 2) (as := [lk_vi (k)]) (S := []) dX8_reach_5 rfl vX0_hasReach rfl lX8_101 rfl rfl (Nat.le_of_ble_eq_true rfl) (tX0_hasReach_out l X d σ τ (c := 2) (k := (k)) (hc := rfl) (hk := hk)) ?_
  refine lk_k3 ?_
  refine lk_cast (pc' := 8) (S' := [lk_vi 0]) rfl rfl rfl ?_
  refine lk_if_eq (tgt := 19) dX8_reach_8 (by decide) (fun hh1 => ?_) (fun hh1 => absurd hh1 (by decide))
  refine lk_iconst (v := (-1)) dX8_reach_19 (by decide) ?_
  refine lk_iret .int dX8_reach_20 rfl rfl ?_
  rw [hQ]
  exact ⟨by first | rfl | (simp [*]; done) | (simp_all; done) | grind, by first | rfl | (simp [*]; done), rfl⟩

set_option maxHeartbeats 1000000 in
set_option maxRecDepth 100000 in
theorem tX8_reach_bad (l : Launch) (X : lk_G) (d : Nat) (σ : lk_N) (τ : lk_T) (n : Nat) (hV : lk_cok (σ 2) n) (k : Nat) (hk : k ≤ n) (w v : Int32) (hs : lk_rset w v = false) : lk_Mt l X mX8_reach (d + 1) [lk_vr 0 0, lk_vi (nI (k)), lk_vi (w), lk_vi (v)] σ τ (fun rr σ1 τ1 => rr = some (lk_vi (-1)) ∧ σ1 = σ ∧ τ1 = τ) := by
  refine lk_met (L := [(0, lk_vr 0 0), (1, lk_vi (nI (k))), (2, lk_vi (w)), (3, lk_vi (v))]) (by decide +kernel) (Nat.le_of_ble_eq_true rfl) rfl ?_
  obtain ⟨Q, hQ⟩ : ∃ Q : lk_Q, Q = fun rr σ1 τ1 => rr = some (lk_vi (-1)) ∧ σ1 = σ ∧ τ1 = τ := ⟨_, rfl⟩
  rw [← hQ]
  refine lk_aload_n dX8_reach_0 rfl rfl ?_
  refine lk_getO (f := 0) (o' := 2) dX8_reach_1 rfl fX8_14 (by decide) (by decide) rfl ?_
  refine lk_iload_n dX8_reach_4 rfl rfl ?_
  refine lk_callV (o := 2) (as := [lk_vi (nI (k))]) (S := []) dX8_reach_5 rfl vX0_hasReach rfl lX8_101 rfl rfl (Nat.le_of_ble_eq_true rfl) (tX0_hasReach_in l X d σ τ (c := 2) (k := (k)) (hc := rfl) (n := n) (hn := hV.1) (hk := hk) (hn6 := hV.2.2.1)) ?_
  refine lk_k3 ?_
  refine lk_cast (pc' := 8) (S' := [lk_vi 1]) rfl rfl rfl ?_
  refine lk_if_eq (tgt := 19) dX8_reach_8 (by decide) (fun hh1 => absurd hh1 (by decide)) (fun hh1 => ?_)
  refine lk_iload_n dX8_reach_11 rfl rfl ?_
  refine lk_iload_n dX8_reach_12 rfl rfl ?_
  refine lk_callS (as := [lk_vi (w), lk_vi (v)]) (S := []) dX8_reach_13 rfl vX8_isReachSetting rfl lX8_104 (Nat.le_of_ble_eq_true rfl) (tX8_isReachSetting l X d σ τ (w := (w)) (v := (v)) ) ?_
  refine lk_k3 ?_
  refine lk_cast (pc' := 16) (S' := [lk_vi (if lk_rset (w) (v) = true then 1 else 0)]) rfl rfl rfl ?_
  refine lk_if_neB (tgt := 21) dX8_reach_16 (by decide) (fun hh2 => absurd hh2 (by rw [hs]; decide)) (fun hh2 => ?_)
  refine lk_iconst (v := (-1)) dX8_reach_19 (by decide) ?_
  refine lk_iret .int dX8_reach_20 rfl rfl ?_
  rw [hQ]
  exact ⟨by first | rfl | (simp [*]; done) | (simp_all; done) | grind, by first | rfl | (simp [*]; done), rfl⟩

set_option maxHeartbeats 1000000 in
set_option maxRecDepth 100000 in
theorem tX8_reach_in (l : Launch) (X : lk_G) (d : Nat) (σ : lk_N) (τ : lk_T) (n : Nat) (hV : lk_cok (σ 2) n) (k : Nat) (hk : k ≤ n) (w : Nat) (v : Int32) (hw : w ≤ 3) (hs : lk_rset (nI w) v = true) : lk_Mt l X mX8_reach (d + 1) [lk_vr 0 0, lk_vi (nI (k)), lk_vi (nI (w)), lk_vi (v)] σ τ (fun rr σ1 τ1 => rr = some (lk_vi (if lk_rchk (σ 2) w k v = true then σ 2 (6 + w) k else -5)) ∧ σ1 = (if lk_rchk (σ 2) w k v = true then lk_up σ 2 (6 + w) k v else σ) ∧ τ1 = τ) := by
  refine lk_met (L := [(0, lk_vr 0 0), (1, lk_vi (nI (k))), (2, lk_vi (nI (w))), (3, lk_vi (v))]) (by decide +kernel) (Nat.le_of_ble_eq_true rfl) rfl ?_
  obtain ⟨Q, hQ⟩ : ∃ Q : lk_Q, Q = fun rr σ1 τ1 => rr = some (lk_vi (if lk_rchk (σ 2) w k v = true then σ 2 (6 + w) k else -5)) ∧ σ1 = (if lk_rchk (σ 2) w k v = true then lk_up σ 2 (6 + w) k v else σ) ∧ τ1 = τ := ⟨_, rfl⟩
  rw [← hQ]
  have hk7 : k < 7 := Nat.lt_succ_of_le (Nat.le_trans hk hV.2.2.1)
  refine lk_aload_n dX8_reach_0 rfl rfl ?_
  refine lk_getO (f := 0) (o' := 2) dX8_reach_1 rfl fX8_14 (by decide) (by decide) rfl ?_
  refine lk_iload_n dX8_reach_4 rfl rfl ?_
  refine lk_callV (o := 2) (as := [lk_vi (nI (k))]) (S := []) dX8_reach_5 rfl vX0_hasReach rfl lX8_101 rfl rfl (Nat.le_of_ble_eq_true rfl) (tX0_hasReach_in l X d σ τ (c := 2) (k := (k)) (hc := rfl) (n := n) (hn := hV.1) (hk := hk) (hn6 := hV.2.2.1)) ?_
  refine lk_k3 ?_
  refine lk_cast (pc' := 8) (S' := [lk_vi 1]) rfl rfl rfl ?_
  refine lk_if_eq (tgt := 19) dX8_reach_8 (by decide) (fun hh1 => absurd hh1 (by decide)) (fun hh1 => ?_)
  refine lk_iload_n dX8_reach_11 rfl rfl ?_
  refine lk_iload_n dX8_reach_12 rfl rfl ?_
  refine lk_callS (as := [lk_vi (nI (w)), lk_vi (v)]) (S := []) dX8_reach_13 rfl vX8_isReachSetting rfl lX8_104 (Nat.le_of_ble_eq_true rfl) (tX8_isReachSetting l X d σ τ (w := (nI (w))) (v := (v)) ) ?_
  refine lk_k3 ?_
  refine lk_cast (pc' := 16) (S' := [lk_vi (if lk_rset (nI (w)) (v) = true then 1 else 0)]) rfl rfl rfl ?_
  refine lk_if_neB (tgt := 21) dX8_reach_16 (by decide) (fun hh2 => ?_) (fun hh2 => absurd hh2 (by intro q; exact q hs))
  rcases (show w = 0 ∨ w = 1 ∨ w = 2 ∨ w = 3 by omega) with rfl | rfl | rfl | rfl
  ·
    refine lk_iload_n dX8_reach_21 rfl rfl ?_
    refine lk_if_ne (tgt := 29) dX8_reach_22 (by decide) (fun hh3 => absurd hh3 (by decide)) (fun hh3 => ?_)
    refine lk_iload_n dX8_reach_25 rfl rfl ?_
    refine lk_goto (tgt := 38) dX8_reach_26 (by decide) ?_
    refine lk_istore (L' := [(0, lk_vr 0 0), (1, lk_vi (nI (k))), (2, lk_vi 0), (3, lk_vi (v)), (4, lk_vi (v))]) dX8_reach_38 (by decide +kernel) rfl ?_
    refine lk_iload_n dX8_reach_40 rfl rfl ?_
    refine lk_iconst (v := 1) dX8_reach_41 (by decide) ?_
    refine lk_icmp_neN (a := 0) (b := 1) (tgt := 49) dX8_reach_42 (by decide) (by omega) (by omega) (fun hh4 => ?_) (fun hh4 => absurd hh4 (by decide))
    refine lk_aload_n dX8_reach_49 rfl rfl ?_
    refine lk_getO (f := 0) (o' := 2) dX8_reach_50 rfl fX8_14 (by decide) (by decide) rfl ?_
    refine lk_getR (f := 7) dX8_reach_53 rfl fX8_110 (by decide) (by decide) ?_
    refine lk_iload_n dX8_reach_56 rfl rfl ?_
    refine lk_ialdN (f := 7) (i := k) dX8_reach_57 rfl (by decide) rfl (by omega) (by decide) ?_
    refine lk_istore (L' := [(0, lk_vr 0 0), (1, lk_vi (nI (k))), (2, lk_vi 0), (3, lk_vi (v)), (4, lk_vi (v)), (5, lk_vi (σ 2 7 (k)))]) dX8_reach_58 (by decide +kernel) rfl ?_
    refine lk_iload_n dX8_reach_60 rfl rfl ?_
    refine lk_iconst (v := 2) dX8_reach_61 (by decide) ?_
    refine lk_icmp_neN (a := 0) (b := 2) (tgt := 69) dX8_reach_62 (by decide) (by omega) (by omega) (fun hh5 => ?_) (fun hh5 => absurd hh5 (by decide))
    refine lk_aload_n dX8_reach_69 rfl rfl ?_
    refine lk_getO (f := 0) (o' := 2) dX8_reach_70 rfl fX8_14 (by decide) (by decide) rfl ?_
    refine lk_getR (f := 8) dX8_reach_73 rfl fX8_113 (by decide) (by decide) ?_
    refine lk_iload_n dX8_reach_76 rfl rfl ?_
    refine lk_ialdN (f := 8) (i := k) dX8_reach_77 rfl (by decide) rfl (by omega) (by decide) ?_
    refine lk_istore (L' := [(0, lk_vr 0 0), (1, lk_vi (nI (k))), (2, lk_vi 0), (3, lk_vi (v)), (4, lk_vi (v)), (5, lk_vi (σ 2 7 (k))), (6, lk_vi (σ 2 8 (k)))]) dX8_reach_78 (by decide +kernel) rfl ?_
    refine lk_iload dX8_reach_80 rfl ?_
    refine lk_iload dX8_reach_82 rfl ?_
    refine lk_icmp_lt (tgt := 94) dX8_reach_84 (by decide) (fun hh6 => ?_) (fun hh6 => ?_)
    ·
      refine lk_bipush (v := (-5)) dX8_reach_94 (by decide) ?_
      refine lk_iret .int dX8_reach_96 rfl rfl ?_
      rw [hQ]
      have hc : lk_rchk (σ 2) 0 k v = false := by simp only [lk_rchk]; grind
      rw [hc]
      exact ⟨rfl, rfl, rfl⟩
    ·
      refine lk_iload dX8_reach_87 rfl ?_
      refine lk_iload dX8_reach_89 rfl ?_
      refine lk_icmp_le (tgt := 97) dX8_reach_91 (by decide) (fun hh7 => ?_) (fun hh7 => ?_)
      ·
        refine lk_aload_n dX8_reach_97 rfl rfl ?_
        refine lk_getO (f := 0) (o' := 2) dX8_reach_98 rfl fX8_14 (by decide) (by decide) rfl ?_
        refine lk_iload_n dX8_reach_101 rfl rfl ?_
        refine lk_iload_n dX8_reach_102 rfl rfl ?_
        refine lk_callV (o := 2) (as := [lk_vi (nI (k)), lk_vi 0]) (S := []) dX8_reach_103 rfl vX0_reachNumber rfl lX8_116 rfl rfl (Nat.le_of_ble_eq_true rfl) (tX0_reachNumber l X d σ τ (c := 2) (k := (k)) (w := (0)) (hc := rfl) (hk := hk7) (hw := by omega)) ?_
        refine lk_k3 ?_
        refine lk_cast (pc' := 106) (S' := [lk_vi (σ 2 (6 + (0)) (k))]) rfl rfl rfl ?_
        refine lk_istore (L' := [(0, lk_vr 0 0), (1, lk_vi (nI (k))), (2, lk_vi 0), (3, lk_vi (v)), (4, lk_vi (v)), (5, lk_vi (σ 2 7 (k))), (6, lk_vi (σ 2 8 (k))), (7, lk_vi (σ 2 (6 + (0)) (k)))]) dX8_reach_106 (by decide +kernel) rfl ?_
        refine lk_aload_n dX8_reach_108 rfl rfl ?_
        refine lk_getO (f := 0) (o' := 2) dX8_reach_109 rfl fX8_14 (by decide) (by decide) rfl ?_
        refine lk_iload_n dX8_reach_112 rfl rfl ?_
        refine lk_iload_n dX8_reach_113 rfl rfl ?_
        refine lk_iload_n dX8_reach_114 rfl rfl ?_
        refine lk_callV (o := 2) (as := [lk_vi (nI (k)), lk_vi 0, lk_vi (v)]) (S := []) dX8_reach_115 rfl vX0_setReach rfl lX8_119 rfl rfl (Nat.le_of_ble_eq_true rfl) (tX0_setReach l X d σ τ (c := 2) (k := (k)) (w := (0)) (v := (v)) (hc := rfl) (hk := hk7) (hw := by omega)) ?_
        refine lk_k3 ?_
        refine lk_cast (pc' := 118) (S' := []) rfl rfl rfl ?_
        refine lk_iload dX8_reach_118 rfl ?_
        refine lk_iret .int dX8_reach_120 rfl rfl ?_
        rw [hQ]
        have hc : lk_rchk (σ 2) 0 k v = true := by simp only [lk_rchk]; grind
        rw [hc]
        exact ⟨rfl, rfl, rfl⟩
      ·
        refine lk_bipush (v := (-5)) dX8_reach_94 (by decide) ?_
        refine lk_iret .int dX8_reach_96 rfl rfl ?_
        rw [hQ]
        have hc : lk_rchk (σ 2) 0 k v = false := by simp only [lk_rchk]; grind
        rw [hc]
        exact ⟨rfl, rfl, rfl⟩
  ·
    refine lk_iload_n dX8_reach_21 rfl rfl ?_
    refine lk_if_ne (tgt := 29) dX8_reach_22 (by decide) (fun hh8 => ?_) (fun hh8 => absurd hh8 (by decide))
    refine lk_aload_n dX8_reach_29 rfl rfl ?_
    refine lk_getO (f := 0) (o' := 2) dX8_reach_30 rfl fX8_14 (by decide) (by decide) rfl ?_
    refine lk_getR (f := 6) dX8_reach_33 rfl fX8_107 (by decide) (by decide) ?_
    refine lk_iload_n dX8_reach_36 rfl rfl ?_
    refine lk_ialdN (f := 6) (i := k) dX8_reach_37 rfl (by decide) rfl (by omega) (by decide) ?_
    refine lk_istore (L' := [(0, lk_vr 0 0), (1, lk_vi (nI (k))), (2, lk_vi 1), (3, lk_vi (v)), (4, lk_vi (σ 2 6 (k)))]) dX8_reach_38 (by decide +kernel) rfl ?_
    refine lk_iload_n dX8_reach_40 rfl rfl ?_
    refine lk_iconst (v := 1) dX8_reach_41 (by decide) ?_
    refine lk_icmp_neN (a := 1) (b := 1) (tgt := 49) dX8_reach_42 (by decide) (by omega) (by omega) (fun hh9 => absurd hh9 (by decide)) (fun hh9 => ?_)
    refine lk_iload_n dX8_reach_45 rfl rfl ?_
    refine lk_goto (tgt := 58) dX8_reach_46 (by decide) ?_
    refine lk_istore (L' := [(0, lk_vr 0 0), (1, lk_vi (nI (k))), (2, lk_vi 1), (3, lk_vi (v)), (4, lk_vi (σ 2 6 (k))), (5, lk_vi (v))]) dX8_reach_58 (by decide +kernel) rfl ?_
    refine lk_iload_n dX8_reach_60 rfl rfl ?_
    refine lk_iconst (v := 2) dX8_reach_61 (by decide) ?_
    refine lk_icmp_neN (a := 1) (b := 2) (tgt := 69) dX8_reach_62 (by decide) (by omega) (by omega) (fun hh10 => ?_) (fun hh10 => absurd hh10 (by decide))
    refine lk_aload_n dX8_reach_69 rfl rfl ?_
    refine lk_getO (f := 0) (o' := 2) dX8_reach_70 rfl fX8_14 (by decide) (by decide) rfl ?_
    refine lk_getR (f := 8) dX8_reach_73 rfl fX8_113 (by decide) (by decide) ?_
    refine lk_iload_n dX8_reach_76 rfl rfl ?_
    refine lk_ialdN (f := 8) (i := k) dX8_reach_77 rfl (by decide) rfl (by omega) (by decide) ?_
    refine lk_istore (L' := [(0, lk_vr 0 0), (1, lk_vi (nI (k))), (2, lk_vi 1), (3, lk_vi (v)), (4, lk_vi (σ 2 6 (k))), (5, lk_vi (v)), (6, lk_vi (σ 2 8 (k)))]) dX8_reach_78 (by decide +kernel) rfl ?_
    refine lk_iload dX8_reach_80 rfl ?_
    refine lk_iload dX8_reach_82 rfl ?_
    refine lk_icmp_lt (tgt := 94) dX8_reach_84 (by decide) (fun hh11 => ?_) (fun hh11 => ?_)
    ·
      refine lk_bipush (v := (-5)) dX8_reach_94 (by decide) ?_
      refine lk_iret .int dX8_reach_96 rfl rfl ?_
      rw [hQ]
      have hc : lk_rchk (σ 2) 1 k v = false := by simp only [lk_rchk]; grind
      rw [hc]
      exact ⟨rfl, rfl, rfl⟩
    ·
      refine lk_iload dX8_reach_87 rfl ?_
      refine lk_iload dX8_reach_89 rfl ?_
      refine lk_icmp_le (tgt := 97) dX8_reach_91 (by decide) (fun hh12 => ?_) (fun hh12 => ?_)
      ·
        refine lk_aload_n dX8_reach_97 rfl rfl ?_
        refine lk_getO (f := 0) (o' := 2) dX8_reach_98 rfl fX8_14 (by decide) (by decide) rfl ?_
        refine lk_iload_n dX8_reach_101 rfl rfl ?_
        refine lk_iload_n dX8_reach_102 rfl rfl ?_
        refine lk_callV (o := 2) (as := [lk_vi (nI (k)), lk_vi 1]) (S := []) dX8_reach_103 rfl vX0_reachNumber rfl lX8_116 rfl rfl (Nat.le_of_ble_eq_true rfl) (tX0_reachNumber l X d σ τ (c := 2) (k := (k)) (w := (1)) (hc := rfl) (hk := hk7) (hw := by omega)) ?_
        refine lk_k3 ?_
        refine lk_cast (pc' := 106) (S' := [lk_vi (σ 2 (6 + (1)) (k))]) rfl rfl rfl ?_
        refine lk_istore (L' := [(0, lk_vr 0 0), (1, lk_vi (nI (k))), (2, lk_vi 1), (3, lk_vi (v)), (4, lk_vi (σ 2 6 (k))), (5, lk_vi (v)), (6, lk_vi (σ 2 8 (k))), (7, lk_vi (σ 2 (6 + (1)) (k)))]) dX8_reach_106 (by decide +kernel) rfl ?_
        refine lk_aload_n dX8_reach_108 rfl rfl ?_
        refine lk_getO (f := 0) (o' := 2) dX8_reach_109 rfl fX8_14 (by decide) (by decide) rfl ?_
        refine lk_iload_n dX8_reach_112 rfl rfl ?_
        refine lk_iload_n dX8_reach_113 rfl rfl ?_
        refine lk_iload_n dX8_reach_114 rfl rfl ?_
        refine lk_callV (o := 2) (as := [lk_vi (nI (k)), lk_vi 1, lk_vi (v)]) (S := []) dX8_reach_115 rfl vX0_setReach rfl lX8_119 rfl rfl (Nat.le_of_ble_eq_true rfl) (tX0_setReach l X d σ τ (c := 2) (k := (k)) (w := (1)) (v := (v)) (hc := rfl) (hk := hk7) (hw := by omega)) ?_
        refine lk_k3 ?_
        refine lk_cast (pc' := 118) (S' := []) rfl rfl rfl ?_
        refine lk_iload dX8_reach_118 rfl ?_
        refine lk_iret .int dX8_reach_120 rfl rfl ?_
        rw [hQ]
        have hc : lk_rchk (σ 2) 1 k v = true := by simp only [lk_rchk]; grind
        rw [hc]
        exact ⟨rfl, rfl, rfl⟩
      ·
        refine lk_bipush (v := (-5)) dX8_reach_94 (by decide) ?_
        refine lk_iret .int dX8_reach_96 rfl rfl ?_
        rw [hQ]
        have hc : lk_rchk (σ 2) 1 k v = false := by simp only [lk_rchk]; grind
        rw [hc]
        exact ⟨rfl, rfl, rfl⟩
  ·
    refine lk_iload_n dX8_reach_21 rfl rfl ?_
    refine lk_if_ne (tgt := 29) dX8_reach_22 (by decide) (fun hh13 => ?_) (fun hh13 => absurd hh13 (by decide))
    refine lk_aload_n dX8_reach_29 rfl rfl ?_
    refine lk_getO (f := 0) (o' := 2) dX8_reach_30 rfl fX8_14 (by decide) (by decide) rfl ?_
    refine lk_getR (f := 6) dX8_reach_33 rfl fX8_107 (by decide) (by decide) ?_
    refine lk_iload_n dX8_reach_36 rfl rfl ?_
    refine lk_ialdN (f := 6) (i := k) dX8_reach_37 rfl (by decide) rfl (by omega) (by decide) ?_
    refine lk_istore (L' := [(0, lk_vr 0 0), (1, lk_vi (nI (k))), (2, lk_vi 2), (3, lk_vi (v)), (4, lk_vi (σ 2 6 (k)))]) dX8_reach_38 (by decide +kernel) rfl ?_
    refine lk_iload_n dX8_reach_40 rfl rfl ?_
    refine lk_iconst (v := 1) dX8_reach_41 (by decide) ?_
    refine lk_icmp_neN (a := 2) (b := 1) (tgt := 49) dX8_reach_42 (by decide) (by omega) (by omega) (fun hh14 => ?_) (fun hh14 => absurd hh14 (by decide))
    refine lk_aload_n dX8_reach_49 rfl rfl ?_
    refine lk_getO (f := 0) (o' := 2) dX8_reach_50 rfl fX8_14 (by decide) (by decide) rfl ?_
    refine lk_getR (f := 7) dX8_reach_53 rfl fX8_110 (by decide) (by decide) ?_
    refine lk_iload_n dX8_reach_56 rfl rfl ?_
    refine lk_ialdN (f := 7) (i := k) dX8_reach_57 rfl (by decide) rfl (by omega) (by decide) ?_
    refine lk_istore (L' := [(0, lk_vr 0 0), (1, lk_vi (nI (k))), (2, lk_vi 2), (3, lk_vi (v)), (4, lk_vi (σ 2 6 (k))), (5, lk_vi (σ 2 7 (k)))]) dX8_reach_58 (by decide +kernel) rfl ?_
    refine lk_iload_n dX8_reach_60 rfl rfl ?_
    refine lk_iconst (v := 2) dX8_reach_61 (by decide) ?_
    refine lk_icmp_neN (a := 2) (b := 2) (tgt := 69) dX8_reach_62 (by decide) (by omega) (by omega) (fun hh15 => absurd hh15 (by decide)) (fun hh15 => ?_)
    refine lk_iload_n dX8_reach_65 rfl rfl ?_
    refine lk_goto (tgt := 78) dX8_reach_66 (by decide) ?_
    refine lk_istore (L' := [(0, lk_vr 0 0), (1, lk_vi (nI (k))), (2, lk_vi 2), (3, lk_vi (v)), (4, lk_vi (σ 2 6 (k))), (5, lk_vi (σ 2 7 (k))), (6, lk_vi (v))]) dX8_reach_78 (by decide +kernel) rfl ?_
    refine lk_iload dX8_reach_80 rfl ?_
    refine lk_iload dX8_reach_82 rfl ?_
    refine lk_icmp_lt (tgt := 94) dX8_reach_84 (by decide) (fun hh16 => ?_) (fun hh16 => ?_)
    ·
      refine lk_bipush (v := (-5)) dX8_reach_94 (by decide) ?_
      refine lk_iret .int dX8_reach_96 rfl rfl ?_
      rw [hQ]
      have hc : lk_rchk (σ 2) 2 k v = false := by simp only [lk_rchk]; grind
      rw [hc]
      exact ⟨rfl, rfl, rfl⟩
    ·
      refine lk_iload dX8_reach_87 rfl ?_
      refine lk_iload dX8_reach_89 rfl ?_
      refine lk_icmp_le (tgt := 97) dX8_reach_91 (by decide) (fun hh17 => ?_) (fun hh17 => ?_)
      ·
        refine lk_aload_n dX8_reach_97 rfl rfl ?_
        refine lk_getO (f := 0) (o' := 2) dX8_reach_98 rfl fX8_14 (by decide) (by decide) rfl ?_
        refine lk_iload_n dX8_reach_101 rfl rfl ?_
        refine lk_iload_n dX8_reach_102 rfl rfl ?_
        refine lk_callV (o := 2) (as := [lk_vi (nI (k)), lk_vi 2]) (S := []) dX8_reach_103 rfl vX0_reachNumber rfl lX8_116 rfl rfl (Nat.le_of_ble_eq_true rfl) (tX0_reachNumber l X d σ τ (c := 2) (k := (k)) (w := (2)) (hc := rfl) (hk := hk7) (hw := by omega)) ?_
        refine lk_k3 ?_
        refine lk_cast (pc' := 106) (S' := [lk_vi (σ 2 (6 + (2)) (k))]) rfl rfl rfl ?_
        refine lk_istore (L' := [(0, lk_vr 0 0), (1, lk_vi (nI (k))), (2, lk_vi 2), (3, lk_vi (v)), (4, lk_vi (σ 2 6 (k))), (5, lk_vi (σ 2 7 (k))), (6, lk_vi (v)), (7, lk_vi (σ 2 (6 + (2)) (k)))]) dX8_reach_106 (by decide +kernel) rfl ?_
        refine lk_aload_n dX8_reach_108 rfl rfl ?_
        refine lk_getO (f := 0) (o' := 2) dX8_reach_109 rfl fX8_14 (by decide) (by decide) rfl ?_
        refine lk_iload_n dX8_reach_112 rfl rfl ?_
        refine lk_iload_n dX8_reach_113 rfl rfl ?_
        refine lk_iload_n dX8_reach_114 rfl rfl ?_
        refine lk_callV (o := 2) (as := [lk_vi (nI (k)), lk_vi 2, lk_vi (v)]) (S := []) dX8_reach_115 rfl vX0_setReach rfl lX8_119 rfl rfl (Nat.le_of_ble_eq_true rfl) (tX0_setReach l X d σ τ (c := 2) (k := (k)) (w := (2)) (v := (v)) (hc := rfl) (hk := hk7) (hw := by omega)) ?_
        refine lk_k3 ?_
        refine lk_cast (pc' := 118) (S' := []) rfl rfl rfl ?_
        refine lk_iload dX8_reach_118 rfl ?_
        refine lk_iret .int dX8_reach_120 rfl rfl ?_
        rw [hQ]
        have hc : lk_rchk (σ 2) 2 k v = true := by simp only [lk_rchk]; grind
        rw [hc]
        exact ⟨rfl, rfl, rfl⟩
      ·
        refine lk_bipush (v := (-5)) dX8_reach_94 (by decide) ?_
        refine lk_iret .int dX8_reach_96 rfl rfl ?_
        rw [hQ]
        have hc : lk_rchk (σ 2) 2 k v = false := by simp only [lk_rchk]; grind
        rw [hc]
        exact ⟨rfl, rfl, rfl⟩
  ·
    refine lk_iload_n dX8_reach_21 rfl rfl ?_
    refine lk_if_ne (tgt := 29) dX8_reach_22 (by decide) (fun hh18 => ?_) (fun hh18 => absurd hh18 (by decide))
    refine lk_aload_n dX8_reach_29 rfl rfl ?_
    refine lk_getO (f := 0) (o' := 2) dX8_reach_30 rfl fX8_14 (by decide) (by decide) rfl ?_
    refine lk_getR (f := 6) dX8_reach_33 rfl fX8_107 (by decide) (by decide) ?_
    refine lk_iload_n dX8_reach_36 rfl rfl ?_
    refine lk_ialdN (f := 6) (i := k) dX8_reach_37 rfl (by decide) rfl (by omega) (by decide) ?_
    refine lk_istore (L' := [(0, lk_vr 0 0), (1, lk_vi (nI (k))), (2, lk_vi 3), (3, lk_vi (v)), (4, lk_vi (σ 2 6 (k)))]) dX8_reach_38 (by decide +kernel) rfl ?_
    refine lk_iload_n dX8_reach_40 rfl rfl ?_
    refine lk_iconst (v := 1) dX8_reach_41 (by decide) ?_
    refine lk_icmp_neN (a := 3) (b := 1) (tgt := 49) dX8_reach_42 (by decide) (by omega) (by omega) (fun hh19 => ?_) (fun hh19 => absurd hh19 (by decide))
    refine lk_aload_n dX8_reach_49 rfl rfl ?_
    refine lk_getO (f := 0) (o' := 2) dX8_reach_50 rfl fX8_14 (by decide) (by decide) rfl ?_
    refine lk_getR (f := 7) dX8_reach_53 rfl fX8_110 (by decide) (by decide) ?_
    refine lk_iload_n dX8_reach_56 rfl rfl ?_
    refine lk_ialdN (f := 7) (i := k) dX8_reach_57 rfl (by decide) rfl (by omega) (by decide) ?_
    refine lk_istore (L' := [(0, lk_vr 0 0), (1, lk_vi (nI (k))), (2, lk_vi 3), (3, lk_vi (v)), (4, lk_vi (σ 2 6 (k))), (5, lk_vi (σ 2 7 (k)))]) dX8_reach_58 (by decide +kernel) rfl ?_
    refine lk_iload_n dX8_reach_60 rfl rfl ?_
    refine lk_iconst (v := 2) dX8_reach_61 (by decide) ?_
    refine lk_icmp_neN (a := 3) (b := 2) (tgt := 69) dX8_reach_62 (by decide) (by omega) (by omega) (fun hh20 => ?_) (fun hh20 => absurd hh20 (by decide))
    refine lk_aload_n dX8_reach_69 rfl rfl ?_
    refine lk_getO (f := 0) (o' := 2) dX8_reach_70 rfl fX8_14 (by decide) (by decide) rfl ?_
    refine lk_getR (f := 8) dX8_reach_73 rfl fX8_113 (by decide) (by decide) ?_
    refine lk_iload_n dX8_reach_76 rfl rfl ?_
    refine lk_ialdN (f := 8) (i := k) dX8_reach_77 rfl (by decide) rfl (by omega) (by decide) ?_
    refine lk_istore (L' := [(0, lk_vr 0 0), (1, lk_vi (nI (k))), (2, lk_vi 3), (3, lk_vi (v)), (4, lk_vi (σ 2 6 (k))), (5, lk_vi (σ 2 7 (k))), (6, lk_vi (σ 2 8 (k)))]) dX8_reach_78 (by decide +kernel) rfl ?_
    refine lk_iload dX8_reach_80 rfl ?_
    refine lk_iload dX8_reach_82 rfl ?_
    refine lk_icmp_lt (tgt := 94) dX8_reach_84 (by decide) (fun hh21 => ?_) (fun hh21 => ?_)
    ·
      refine lk_bipush (v := (-5)) dX8_reach_94 (by decide) ?_
      refine lk_iret .int dX8_reach_96 rfl rfl ?_
      rw [hQ]
      have hc : lk_rchk (σ 2) 3 k v = false := by simp only [lk_rchk]; grind
      rw [hc]
      exact ⟨rfl, rfl, rfl⟩
    ·
      refine lk_iload dX8_reach_87 rfl ?_
      refine lk_iload dX8_reach_89 rfl ?_
      refine lk_icmp_le (tgt := 97) dX8_reach_91 (by decide) (fun hh22 => ?_) (fun hh22 => ?_)
      ·
        refine lk_aload_n dX8_reach_97 rfl rfl ?_
        refine lk_getO (f := 0) (o' := 2) dX8_reach_98 rfl fX8_14 (by decide) (by decide) rfl ?_
        refine lk_iload_n dX8_reach_101 rfl rfl ?_
        refine lk_iload_n dX8_reach_102 rfl rfl ?_
        refine lk_callV (o := 2) (as := [lk_vi (nI (k)), lk_vi 3]) (S := []) dX8_reach_103 rfl vX0_reachNumber rfl lX8_116 rfl rfl (Nat.le_of_ble_eq_true rfl) (tX0_reachNumber l X d σ τ (c := 2) (k := (k)) (w := (3)) (hc := rfl) (hk := hk7) (hw := by omega)) ?_
        refine lk_k3 ?_
        refine lk_cast (pc' := 106) (S' := [lk_vi (σ 2 (6 + (3)) (k))]) rfl rfl rfl ?_
        refine lk_istore (L' := [(0, lk_vr 0 0), (1, lk_vi (nI (k))), (2, lk_vi 3), (3, lk_vi (v)), (4, lk_vi (σ 2 6 (k))), (5, lk_vi (σ 2 7 (k))), (6, lk_vi (σ 2 8 (k))), (7, lk_vi (σ 2 (6 + (3)) (k)))]) dX8_reach_106 (by decide +kernel) rfl ?_
        refine lk_aload_n dX8_reach_108 rfl rfl ?_
        refine lk_getO (f := 0) (o' := 2) dX8_reach_109 rfl fX8_14 (by decide) (by decide) rfl ?_
        refine lk_iload_n dX8_reach_112 rfl rfl ?_
        refine lk_iload_n dX8_reach_113 rfl rfl ?_
        refine lk_iload_n dX8_reach_114 rfl rfl ?_
        refine lk_callV (o := 2) (as := [lk_vi (nI (k)), lk_vi 3, lk_vi (v)]) (S := []) dX8_reach_115 rfl vX0_setReach rfl lX8_119 rfl rfl (Nat.le_of_ble_eq_true rfl) (tX0_setReach l X d σ τ (c := 2) (k := (k)) (w := (3)) (v := (v)) (hc := rfl) (hk := hk7) (hw := by omega)) ?_
        refine lk_k3 ?_
        refine lk_cast (pc' := 118) (S' := []) rfl rfl rfl ?_
        refine lk_iload dX8_reach_118 rfl ?_
        refine lk_iret .int dX8_reach_120 rfl rfl ?_
        rw [hQ]
        have hc : lk_rchk (σ 2) 3 k v = true := by simp only [lk_rchk]; grind
        rw [hc]
        exact ⟨rfl, rfl, rfl⟩
      ·
        refine lk_bipush (v := (-5)) dX8_reach_94 (by decide) ?_
        refine lk_iret .int dX8_reach_96 rfl rfl ?_
        rw [hQ]
        have hc : lk_rchk (σ 2) 3 k v = false := by simp only [lk_rchk]; grind
        rw [hc]
        exact ⟨rfl, rfl, rfl⟩

set_option maxHeartbeats 1000000 in
set_option maxRecDepth 100000 in
theorem tX8_ofReach_out (l : Launch) (X : lk_G) (d : Nat) (σ : lk_N) (τ : lk_T) (k : Int32) (hk : k < 0 ∨ σ 2 0 0 < k) (w : Int32) : lk_Mt l X mX8_ofReach (d + 1) [lk_vr 0 0, lk_vi (k), lk_vi (w)] σ τ (fun rr σ1 τ1 => rr = some (lk_vi (-1)) ∧ σ1 = σ ∧ τ1 = τ) := by
  refine lk_met (L := [(0, lk_vr 0 0), (1, lk_vi (k)), (2, lk_vi (w))]) (by decide +kernel) (Nat.le_of_ble_eq_true rfl) rfl ?_
  obtain ⟨Q, hQ⟩ : ∃ Q : lk_Q, Q = fun rr σ1 τ1 => rr = some (lk_vi (-1)) ∧ σ1 = σ ∧ τ1 = τ := ⟨_, rfl⟩
  rw [← hQ]
  refine lk_aload_n dX8_ofReach_0 rfl rfl ?_
  refine lk_getO (f := 0) (o' := 2) dX8_ofReach_1 rfl fX8_14 (by decide) (by decide) rfl ?_
  refine lk_iload_n dX8_ofReach_4 rfl rfl ?_
  refine lk_callV (o := 2) (as := [lk_vi (k)]) (S := []) dX8_ofReach_5 rfl vX0_hasReach rfl lX8_101 rfl rfl (Nat.le_of_ble_eq_true rfl) (tX0_hasReach_out l X d σ τ (c := 2) (k := (k)) (hc := rfl) (hk := hk)) ?_
  refine lk_k3 ?_
  refine lk_cast (pc' := 8) (S' := [lk_vi 0]) rfl rfl rfl ?_
  refine lk_if_eq (tgt := 20) dX8_ofReach_8 (by decide) (fun hh1 => ?_) (fun hh1 => absurd hh1 (by decide))
  refine lk_iconst (v := (-1)) dX8_ofReach_20 (by decide) ?_
  refine lk_iret .int dX8_ofReach_21 rfl rfl ?_
  rw [hQ]
  exact ⟨by first | rfl | (simp [*]; done) | (simp_all; done) | grind, by first | rfl | (simp [*]; done), rfl⟩

set_option maxHeartbeats 1000000 in
set_option maxRecDepth 100000 in
theorem tX8_ofReach_bad (l : Launch) (X : lk_G) (d : Nat) (σ : lk_N) (τ : lk_T) (n : Nat) (hV : lk_cok (σ 2) n) (k : Nat) (hk : k ≤ n) (w : Int32) (h : w < 0 ∨ 4 < w) : lk_Mt l X mX8_ofReach (d + 1) [lk_vr 0 0, lk_vi (nI (k)), lk_vi (w)] σ τ (fun rr σ1 τ1 => rr = some (lk_vi (-1)) ∧ σ1 = σ ∧ τ1 = τ) := by
  refine lk_met (L := [(0, lk_vr 0 0), (1, lk_vi (nI (k))), (2, lk_vi (w))]) (by decide +kernel) (Nat.le_of_ble_eq_true rfl) rfl ?_
  obtain ⟨Q, hQ⟩ : ∃ Q : lk_Q, Q = fun rr σ1 τ1 => rr = some (lk_vi (-1)) ∧ σ1 = σ ∧ τ1 = τ := ⟨_, rfl⟩
  rw [← hQ]
  refine lk_aload_n dX8_ofReach_0 rfl rfl ?_
  refine lk_getO (f := 0) (o' := 2) dX8_ofReach_1 rfl fX8_14 (by decide) (by decide) rfl ?_
  refine lk_iload_n dX8_ofReach_4 rfl rfl ?_
  refine lk_callV (o := 2) (as := [lk_vi (nI (k))]) (S := []) dX8_ofReach_5 rfl vX0_hasReach rfl lX8_101 rfl rfl (Nat.le_of_ble_eq_true rfl) (tX0_hasReach_in l X d σ τ (c := 2) (k := (k)) (hc := rfl) (n := n) (hn := hV.1) (hk := hk) (hn6 := hV.2.2.1)) ?_
  refine lk_k3 ?_
  refine lk_cast (pc' := 8) (S' := [lk_vi 1]) rfl rfl rfl ?_
  refine lk_if_eq (tgt := 20) dX8_ofReach_8 (by decide) (fun hh1 => absurd hh1 (by decide)) (fun hh1 => ?_)
  refine lk_iload_n dX8_ofReach_11 rfl rfl ?_
  refine lk_if_lt (tgt := 20) dX8_ofReach_12 (by decide) (fun hh2 => ?_) (fun hh2 => ?_)
  ·
    refine lk_iconst (v := (-1)) dX8_ofReach_20 (by decide) ?_
    refine lk_iret .int dX8_ofReach_21 rfl rfl ?_
    rw [hQ]
    exact ⟨by first | rfl | (simp [*]; done) | (simp_all; done) | grind, by first | rfl | (simp [*]; done), rfl⟩
  ·
    refine lk_iload_n dX8_ofReach_15 rfl rfl ?_
    refine lk_iconst (v := 4) dX8_ofReach_16 (by decide) ?_
    refine lk_icmp_le (tgt := 22) dX8_ofReach_17 (by decide) (fun hh3 => ?_) (fun hh3 => ?_)
    ·
      exact absurd h (by rintro (z | z) <;> first | contradiction | exact absurd z (Int32.not_lt.mpr (by assumption)))
    ·
      refine lk_iconst (v := (-1)) dX8_ofReach_20 (by decide) ?_
      refine lk_iret .int dX8_ofReach_21 rfl rfl ?_
      rw [hQ]
      exact ⟨by first | rfl | (simp [*]; done) | (simp_all; done) | grind, by first | rfl | (simp [*]; done), rfl⟩

set_option maxHeartbeats 1000000 in
set_option maxRecDepth 100000 in
theorem tX8_ofReach_ok (l : Launch) (X : lk_G) (d : Nat) (σ : lk_N) (τ : lk_T) (n : Nat) (hV : lk_cok (σ 2) n) (k : Nat) (hk : k ≤ n) (w : Nat) (hw : w ≤ 3) : lk_Mt l X mX8_ofReach (d + 1) [lk_vr 0 0, lk_vi (nI (k)), lk_vi (nI (w))] σ τ (fun rr σ1 τ1 => rr = some (lk_vi (σ 2 (6 + w) k)) ∧ σ1 = σ ∧ τ1 = τ) := by
  refine lk_met (L := [(0, lk_vr 0 0), (1, lk_vi (nI (k))), (2, lk_vi (nI (w)))]) (by decide +kernel) (Nat.le_of_ble_eq_true rfl) rfl ?_
  obtain ⟨Q, hQ⟩ : ∃ Q : lk_Q, Q = fun rr σ1 τ1 => rr = some (lk_vi (σ 2 (6 + w) k)) ∧ σ1 = σ ∧ τ1 = τ := ⟨_, rfl⟩
  rw [← hQ]
  have hk7 : k < 7 := Nat.lt_succ_of_le (Nat.le_trans hk hV.2.2.1)
  refine lk_aload_n dX8_ofReach_0 rfl rfl ?_
  refine lk_getO (f := 0) (o' := 2) dX8_ofReach_1 rfl fX8_14 (by decide) (by decide) rfl ?_
  refine lk_iload_n dX8_ofReach_4 rfl rfl ?_
  refine lk_callV (o := 2) (as := [lk_vi (nI (k))]) (S := []) dX8_ofReach_5 rfl vX0_hasReach rfl lX8_101 rfl rfl (Nat.le_of_ble_eq_true rfl) (tX0_hasReach_in l X d σ τ (c := 2) (k := (k)) (hc := rfl) (n := n) (hn := hV.1) (hk := hk) (hn6 := hV.2.2.1)) ?_
  refine lk_k3 ?_
  refine lk_cast (pc' := 8) (S' := [lk_vi 1]) rfl rfl rfl ?_
  refine lk_if_eq (tgt := 20) dX8_ofReach_8 (by decide) (fun hh1 => absurd hh1 (by decide)) (fun hh1 => ?_)
  refine lk_iload_n dX8_ofReach_11 rfl rfl ?_
  refine lk_if_ltN (a := w) (tgt := 20) dX8_ofReach_12 (by decide) (by omega) (fun hh2 => absurd hh2 (by omega)) (fun hh2 => ?_)
  refine lk_iload_n dX8_ofReach_15 rfl rfl ?_
  refine lk_iconst (v := 4) dX8_ofReach_16 (by decide) ?_
  refine lk_icmp_leN (a := w) (b := 4) (tgt := 22) dX8_ofReach_17 (by decide) (by omega) (by omega) (fun hh3 => ?_) (fun hh3 => absurd hh3 (by omega))
  refine lk_iload_n dX8_ofReach_22 rfl rfl ?_
  refine lk_iconst (v := 4) dX8_ofReach_23 (by decide) ?_
  refine lk_icmp_neN (a := w) (b := 4) (tgt := 38) dX8_ofReach_24 (by decide) (by omega) (by omega) (fun hh4 => ?_) (fun hh4 => absurd hh4 (by omega))
  refine lk_aload_n dX8_ofReach_38 rfl rfl ?_
  refine lk_getO (f := 0) (o' := 2) dX8_ofReach_39 rfl fX8_14 (by decide) (by decide) rfl ?_
  refine lk_iload_n dX8_ofReach_42 rfl rfl ?_
  refine lk_iload_n dX8_ofReach_43 rfl rfl ?_
  refine lk_callV (o := 2) (as := [lk_vi (nI (k)), lk_vi (nI (w))]) (S := []) dX8_ofReach_44 rfl vX0_reachNumber rfl lX8_116 rfl rfl (Nat.le_of_ble_eq_true rfl) (tX0_reachNumber l X d σ τ (c := 2) (k := (k)) (w := (w)) (hc := rfl) (hk := hk7) (hw := hw)) ?_
  refine lk_k3 ?_
  refine lk_cast (pc' := 47) (S' := [lk_vi (σ 2 (6 + (w)) (k))]) rfl rfl rfl ?_
  refine lk_iret .int dX8_ofReach_47 rfl rfl ?_
  rw [hQ]
  exact ⟨by first | rfl | (simp [*]; done) | (simp_all; done) | grind, by first | rfl | (simp [*]; done), rfl⟩

set_option maxHeartbeats 1000000 in
set_option maxRecDepth 100000 in
theorem tX8_ofReach_4 (l : Launch) (X : lk_G) (d : Nat) (σ : lk_N) (τ : lk_T) (n : Nat) (hV : lk_cok (σ 2) n) (k : Nat) (hk : k ≤ n) (nf : Nat) (hn : σ 11 5 0 = nI nf) (hn22 : nf ≤ 22) : lk_Mt l X mX8_ofReach (d + 1) [lk_vr 0 0, lk_vi (nI (k)), lk_vi 4] σ τ (fun rr σ1 τ1 => rr = some (lk_vi (nI (lk_ct (fun b => decide (σ 11 4 b = nI k)) nf))) ∧ σ1 = σ ∧ τ1 = τ) := by
  refine lk_met (L := [(0, lk_vr 0 0), (1, lk_vi (nI (k))), (2, lk_vi 4)]) (by decide +kernel) (Nat.le_of_ble_eq_true rfl) rfl ?_
  obtain ⟨Q, hQ⟩ : ∃ Q : lk_Q, Q = fun rr σ1 τ1 => rr = some (lk_vi (nI (lk_ct (fun b => decide (σ 11 4 b = nI k)) nf))) ∧ σ1 = σ ∧ τ1 = τ := ⟨_, rfl⟩
  rw [← hQ]
  refine lk_aload_n dX8_ofReach_0 rfl rfl ?_
  refine lk_getO (f := 0) (o' := 2) dX8_ofReach_1 rfl fX8_14 (by decide) (by decide) rfl ?_
  refine lk_iload_n dX8_ofReach_4 rfl rfl ?_
  refine lk_callV (o := 2) (as := [lk_vi (nI (k))]) (S := []) dX8_ofReach_5 rfl vX0_hasReach rfl lX8_101 rfl rfl (Nat.le_of_ble_eq_true rfl) (tX0_hasReach_in l X d σ τ (c := 2) (k := (k)) (hc := rfl) (n := n) (hn := hV.1) (hk := hk) (hn6 := hV.2.2.1)) ?_
  refine lk_k3 ?_
  refine lk_cast (pc' := 8) (S' := [lk_vi 1]) rfl rfl rfl ?_
  refine lk_if_eq (tgt := 20) dX8_ofReach_8 (by decide) (fun hh1 => absurd hh1 (by decide)) (fun hh1 => ?_)
  refine lk_iload_n dX8_ofReach_11 rfl rfl ?_
  refine lk_if_lt (tgt := 20) dX8_ofReach_12 (by decide) (fun hh2 => absurd hh2 (by decide)) (fun hh2 => ?_)
  refine lk_iload_n dX8_ofReach_15 rfl rfl ?_
  refine lk_iconst (v := 4) dX8_ofReach_16 (by decide) ?_
  refine lk_icmp_leN (a := 4) (b := 4) (tgt := 22) dX8_ofReach_17 (by decide) (by omega) (by omega) (fun hh3 => ?_) (fun hh3 => absurd hh3 (by decide))
  refine lk_iload_n dX8_ofReach_22 rfl rfl ?_
  refine lk_iconst (v := 4) dX8_ofReach_23 (by decide) ?_
  refine lk_icmp_neN (a := 4) (b := 4) (tgt := 38) dX8_ofReach_24 (by decide) (by omega) (by omega) (fun hh4 => absurd hh4 (by decide)) (fun hh4 => ?_)
  refine lk_aload_n dX8_ofReach_27 rfl rfl ?_
  refine lk_getO (f := 1) (o' := 11) dX8_ofReach_28 rfl fX8_21 (by decide) (by decide) rfl ?_
  refine lk_iload_n dX8_ofReach_31 rfl rfl ?_
  refine lk_callV (o := 11) (as := [lk_vi (nI (k))]) (S := []) dX8_ofReach_32 rfl vX2_countIn rfl lX8_123 rfl rfl (Nat.le_of_ble_eq_true rfl) (tX2_countIn l X d σ τ (f := 11) (w := (nI (k))) (hf := rfl) (n := nf) (hn := hn) (hn22 := hn22)) ?_
  refine lk_k3 ?_
  refine lk_cast (pc' := 35) (S' := [lk_vi (nI (lk_ct (fun b => decide (σ 11 4 b = (nI (k)))) nf))]) rfl rfl rfl ?_
  refine lk_goto (tgt := 47) dX8_ofReach_35 (by decide) ?_
  refine lk_iret .int dX8_ofReach_47 rfl rfl ?_
  rw [hQ]
  exact ⟨by first | rfl | (simp [*]; done) | (simp_all; done) | grind, by first | rfl | (simp [*]; done), rfl⟩

set_option maxHeartbeats 1000000 in
set_option maxRecDepth 100000 in
theorem tX8_feed_bad (l : Launch) (X : lk_G) (d : Nat) (σ : lk_N) (τ : lk_T) (v : Int32) (h : v < 32 ∨ 126 < v) : lk_Mt l X mX8_feed (d + 1) [lk_vr 0 0, lk_vi (v)] σ τ (fun rr σ1 τ1 => rr = some (lk_vi (-1)) ∧ σ1 = σ ∧ τ1 = τ) := by
  refine lk_met (L := [(0, lk_vr 0 0), (1, lk_vi (v))]) (by decide +kernel) (Nat.le_of_ble_eq_true rfl) rfl ?_
  obtain ⟨Q, hQ⟩ : ∃ Q : lk_Q, Q = fun rr σ1 τ1 => rr = some (lk_vi (-1)) ∧ σ1 = σ ∧ τ1 = τ := ⟨_, rfl⟩
  rw [← hQ]
  refine lk_iload_n dX8_feed_0 rfl rfl ?_
  refine lk_bipush (v := 32) dX8_feed_1 (by decide) ?_
  refine lk_icmp_lt (tgt := 12) dX8_feed_3 (by decide) (fun hh1 => ?_) (fun hh1 => ?_)
  ·
    refine lk_iconst (v := (-1)) dX8_feed_12 (by decide) ?_
    refine lk_iret .int dX8_feed_13 rfl rfl ?_
    rw [hQ]
    exact ⟨by first | rfl | (simp [*]; done) | (simp_all; done) | grind, by first | rfl | (simp [*]; done), rfl⟩
  ·
    refine lk_iload_n dX8_feed_6 rfl rfl ?_
    refine lk_bipush (v := 126) dX8_feed_7 (by decide) ?_
    refine lk_icmp_le (tgt := 14) dX8_feed_9 (by decide) (fun hh2 => ?_) (fun hh2 => ?_)
    ·
      exact absurd h (by rintro (z | z) <;> first | contradiction | exact absurd z (Int32.not_lt.mpr (by assumption)))
    ·
      refine lk_iconst (v := (-1)) dX8_feed_12 (by decide) ?_
      refine lk_iret .int dX8_feed_13 rfl rfl ?_
      rw [hQ]
      exact ⟨by first | rfl | (simp [*]; done) | (simp_all; done) | grind, by first | rfl | (simp [*]; done), rfl⟩

set_option maxHeartbeats 1000000 in
set_option maxRecDepth 100000 in
theorem tX8_feed_ok (l : Launch) (X : lk_G) (d : Nat) (σ : lk_N) (τ : lk_T) (v : Int32) (h : ¬ v < 32) (h2 : v ≤ 126) (nt : Nat) (hn : σ 14 1 0 = nI nt) (hn60 : nt < 60) : lk_Mt l X mX8_feed (d + 1) [lk_vr 0 0, lk_vi (v)] σ τ (fun rr σ1 τ1 => rr = some (lk_vi (nI (nt + 1))) ∧ σ1 = lk_so σ 14 (lk_ou (lk_ou (σ 14) 0 nt v) 1 0 (nI (nt + 1))) ∧ τ1 = τ) := by
  refine lk_met (L := [(0, lk_vr 0 0), (1, lk_vi (v))]) (by decide +kernel) (Nat.le_of_ble_eq_true rfl) rfl ?_
  obtain ⟨Q, hQ⟩ : ∃ Q : lk_Q, Q = fun rr σ1 τ1 => rr = some (lk_vi (nI (nt + 1))) ∧ σ1 = lk_so σ 14 (lk_ou (lk_ou (σ 14) 0 nt v) 1 0 (nI (nt + 1))) ∧ τ1 = τ := ⟨_, rfl⟩
  rw [← hQ]
  refine lk_iload_n dX8_feed_0 rfl rfl ?_
  refine lk_bipush (v := 32) dX8_feed_1 (by decide) ?_
  refine lk_icmp_lt (tgt := 12) dX8_feed_3 (by decide) (fun hh1 => absurd hh1 h) (fun hh1 => ?_)
  refine lk_iload_n dX8_feed_6 rfl rfl ?_
  refine lk_bipush (v := 126) dX8_feed_7 (by decide) ?_
  refine lk_icmp_le (tgt := 14) dX8_feed_9 (by decide) (fun hh2 => ?_) (fun hh2 => absurd hh2 (by intro q; exact q h2))
  refine lk_aload_n dX8_feed_14 rfl rfl ?_
  refine lk_getO (f := 2) (o' := 14) dX8_feed_15 rfl fX8_28 (by decide) (by decide) rfl ?_
  refine lk_iload_n dX8_feed_18 rfl rfl ?_
  refine lk_callV (o := 14) (as := [lk_vi (v)]) (S := []) dX8_feed_19 rfl vX6_append rfl lX8_130 rfl rfl (Nat.le_of_ble_eq_true rfl) (tX6_append_ok l X d σ τ (t := 14) (x := (v)) (ht := rfl) (n := nt) (hn := hn) (hn60 := hn60)) ?_
  refine lk_k3 ?_
  refine lk_cast (pc' := 22) (S' := [lk_vi 1]) rfl rfl rfl ?_
  refine lk_if_eq (tgt := 35) dX8_feed_22 (by decide) (fun hh3 => absurd hh3 (by decide)) (fun hh3 => ?_)
  refine lk_aload_n dX8_feed_25 rfl rfl ?_
  refine lk_getO (f := 2) (o' := 14) dX8_feed_26 rfl fX8_28 (by decide) (by decide) rfl ?_
  refine lk_getIv (v := (nI (nt + 1))) (f := 1) dX8_feed_29 rfl fX8_133 (by decide) (by decide) (by simp [lk_so, lk_ou]) ?_
  refine lk_goto (tgt := 37) dX8_feed_32 (by decide) ?_
  refine lk_iret .int dX8_feed_37 rfl rfl ?_
  rw [hQ]
  exact ⟨by first | rfl | (simp [*]; done) | (simp_all; done) | grind, by first | rfl | (simp [*]; done), rfl⟩

set_option maxHeartbeats 1000000 in
set_option maxRecDepth 100000 in
theorem tX8_feed_full (l : Launch) (X : lk_G) (d : Nat) (σ : lk_N) (τ : lk_T) (v : Int32) (h : ¬ v < 32) (h2 : v ≤ 126) (hn : σ 14 1 0 = nI 60) : lk_Mt l X mX8_feed (d + 1) [lk_vr 0 0, lk_vi (v)] σ τ (fun rr σ1 τ1 => rr = some (lk_vi (-3)) ∧ σ1 = σ ∧ τ1 = τ) := by
  refine lk_met (L := [(0, lk_vr 0 0), (1, lk_vi (v))]) (by decide +kernel) (Nat.le_of_ble_eq_true rfl) rfl ?_
  obtain ⟨Q, hQ⟩ : ∃ Q : lk_Q, Q = fun rr σ1 τ1 => rr = some (lk_vi (-3)) ∧ σ1 = σ ∧ τ1 = τ := ⟨_, rfl⟩
  rw [← hQ]
  refine lk_iload_n dX8_feed_0 rfl rfl ?_
  refine lk_bipush (v := 32) dX8_feed_1 (by decide) ?_
  refine lk_icmp_lt (tgt := 12) dX8_feed_3 (by decide) (fun hh1 => absurd hh1 h) (fun hh1 => ?_)
  refine lk_iload_n dX8_feed_6 rfl rfl ?_
  refine lk_bipush (v := 126) dX8_feed_7 (by decide) ?_
  refine lk_icmp_le (tgt := 14) dX8_feed_9 (by decide) (fun hh2 => ?_) (fun hh2 => absurd hh2 (by intro q; exact q h2))
  refine lk_aload_n dX8_feed_14 rfl rfl ?_
  refine lk_getO (f := 2) (o' := 14) dX8_feed_15 rfl fX8_28 (by decide) (by decide) rfl ?_
  refine lk_iload_n dX8_feed_18 rfl rfl ?_
  refine lk_callV (o := 14) (as := [lk_vi (v)]) (S := []) dX8_feed_19 rfl vX6_append rfl lX8_130 rfl rfl (Nat.le_of_ble_eq_true rfl) (tX6_append_no l X d σ τ (t := 14) (x := (v)) (ht := rfl) (hn := hn)) ?_
  refine lk_k3 ?_
  refine lk_cast (pc' := 22) (S' := [lk_vi 0]) rfl rfl rfl ?_
  refine lk_if_eq (tgt := 35) dX8_feed_22 (by decide) (fun hh3 => ?_) (fun hh3 => absurd hh3 (by decide))
  refine lk_bipush (v := (-3)) dX8_feed_35 (by decide) ?_
  refine lk_iret .int dX8_feed_37 rfl rfl ?_
  rw [hQ]
  exact ⟨by first | rfl | (simp [*]; done) | (simp_all; done) | grind, by first | rfl | (simp [*]; done), rfl⟩

set_option maxHeartbeats 1000000 in
set_option maxRecDepth 100000 in
theorem tX8_leaves_out (l : Launch) (X : lk_G) (d : Nat) (σ : lk_N) (τ : lk_T) (b : Int32) (hb : b < 0 ∨ σ 11 5 0 ≤ b) : lk_Mt l X mX8_leaves (d + 2) [lk_vr 0 0, lk_vi (b)] σ τ (fun rr σ1 τ1 => rr = some (lk_vi (-1)) ∧ σ1 = σ ∧ τ1 = τ) := by
  refine lk_met (L := [(0, lk_vr 0 0), (1, lk_vi (b))]) (by decide +kernel) (Nat.le_of_ble_eq_true rfl) rfl ?_
  obtain ⟨Q, hQ⟩ : ∃ Q : lk_Q, Q = fun rr σ1 τ1 => rr = some (lk_vi (-1)) ∧ σ1 = σ ∧ τ1 = τ := ⟨_, rfl⟩
  rw [← hQ]
  refine lk_aload_n dX8_leaves_0 rfl rfl ?_
  refine lk_getO (f := 1) (o' := 11) dX8_leaves_1 rfl fX8_21 (by decide) (by decide) rfl ?_
  refine lk_iload_n dX8_leaves_4 rfl rfl ?_
  refine lk_callV (o := 11) (as := [lk_vi (b)]) (S := []) dX8_leaves_5 rfl vX2_has rfl lX8_164 rfl rfl (Nat.le_of_ble_eq_true rfl) (tX2_has_out l X (d + 1) σ τ (f := 11) (b := (b)) (hf := rfl) (hb := hb)) ?_
  refine lk_k3 ?_
  refine lk_cast (pc' := 8) (S' := [lk_vi 0]) rfl rfl rfl ?_
  refine lk_if_ne (tgt := 13) dX8_leaves_8 (by decide) (fun hh1 => absurd hh1 (by decide)) (fun hh1 => ?_)
  refine lk_iconst (v := (-1)) dX8_leaves_11 (by decide) ?_
  refine lk_iret .int dX8_leaves_12 rfl rfl ?_
  rw [hQ]
  exact ⟨by first | rfl | (simp [*]; done) | (simp_all; done) | grind, by first | rfl | (simp [*]; done), rfl⟩

set_option maxHeartbeats 1000000 in
set_option maxRecDepth 100000 in
theorem tX8_leaves_ok (l : Launch) (X : lk_G) (d : Nat) (σ : lk_N) (τ : lk_T) (nf b : Nat) (hn : σ 11 5 0 = nI nf) (hb : b < nf) (hn12 : nf ≤ 12) (h01 : ∀ i, i < 22 → σ 11 3 i = 0 ∨ σ 11 3 i = 1) : lk_Mt l X mX8_leaves (d + 2) [lk_vr 0 0, lk_vi (nI (b))] σ τ (fun rr σ1 τ1 => rr = some (lk_vi (nI (nf - 1))) ∧ σ1 = lk_so σ 11 (lk_frm (σ 11) b nf) ∧ τ1 = τ) := by
  refine lk_met (L := [(0, lk_vr 0 0), (1, lk_vi (nI (b)))]) (by decide +kernel) (Nat.le_of_ble_eq_true rfl) rfl ?_
  obtain ⟨Q, hQ⟩ : ∃ Q : lk_Q, Q = fun rr σ1 τ1 => rr = some (lk_vi (nI (nf - 1))) ∧ σ1 = lk_so σ 11 (lk_frm (σ 11) b nf) ∧ τ1 = τ := ⟨_, rfl⟩
  rw [← hQ]
  refine lk_aload_n dX8_leaves_0 rfl rfl ?_
  refine lk_getO (f := 1) (o' := 11) dX8_leaves_1 rfl fX8_21 (by decide) (by decide) rfl ?_
  refine lk_iload_n dX8_leaves_4 rfl rfl ?_
  refine lk_callV (o := 11) (as := [lk_vi (nI (b))]) (S := []) dX8_leaves_5 rfl vX2_has rfl lX8_164 rfl rfl (Nat.le_of_ble_eq_true rfl) (tX2_has_in l X (d + 1) σ τ (f := 11) (b := (b)) (hf := rfl) (n := nf) (hn := hn) (hb := hb) (hn22 := by omega)) ?_
  refine lk_k3 ?_
  refine lk_cast (pc' := 8) (S' := [lk_vi 1]) rfl rfl rfl ?_
  refine lk_if_ne (tgt := 13) dX8_leaves_8 (by decide) (fun hh1 => ?_) (fun hh1 => absurd hh1 (by decide))
  refine lk_aload_n dX8_leaves_13 rfl rfl ?_
  refine lk_getO (f := 1) (o' := 11) dX8_leaves_14 rfl fX8_21 (by decide) (by decide) rfl ?_
  refine lk_iload_n dX8_leaves_17 rfl rfl ?_
  refine lk_callV (o := 11) (as := [lk_vi (nI (b))]) (S := []) dX8_leaves_18 rfl vX2_remove rfl lX8_179 rfl rfl (Nat.le_of_ble_eq_true rfl) (tX2_remove l X d σ τ (f := 11) (b := (b)) (hf := rfl) (n := nf) (hn := hn) (hb := hb) (hn22 := by omega) (h01 := h01)) ?_
  refine lk_k3 ?_
  refine lk_cast (pc' := 21) (S' := []) rfl rfl rfl ?_
  refine lk_aload_n dX8_leaves_21 rfl rfl ?_
  refine lk_getO (f := 1) (o' := 11) dX8_leaves_22 rfl fX8_21 (by decide) (by decide) rfl ?_
  refine lk_getIv (v := (nI (nf - 1))) (f := 5) dX8_leaves_25 rfl fX8_76 (by decide) (by decide) (by simp [lk_so, lk_frm]) ?_
  refine lk_iret .int dX8_leaves_28 rfl rfl ?_
  rw [hQ]
  exact ⟨by first | rfl | (simp [*]; done) | (simp_all; done) | grind, by first | rfl | (simp [*]; done), rfl⟩

set_option maxHeartbeats 1000000 in
set_option maxRecDepth 100000 in
theorem tX8_about_out (l : Launch) (X : lk_G) (d : Nat) (σ : lk_N) (τ : lk_T) (b : Int32) (hb : b < 0 ∨ σ 11 5 0 ≤ b) : lk_Mt l X mX8_about (d + 1) [lk_vr 0 0, lk_vi (b)] σ τ (fun rr σ1 τ1 => rr = some (lk_vi (-1)) ∧ σ1 = σ ∧ τ1 = τ) := by
  refine lk_met (L := [(0, lk_vr 0 0), (1, lk_vi (b))]) (by decide +kernel) (Nat.le_of_ble_eq_true rfl) rfl ?_
  obtain ⟨Q, hQ⟩ : ∃ Q : lk_Q, Q = fun rr σ1 τ1 => rr = some (lk_vi (-1)) ∧ σ1 = σ ∧ τ1 = τ := ⟨_, rfl⟩
  rw [← hQ]
  refine lk_aload_n dX8_about_0 rfl rfl ?_
  refine lk_getO (f := 1) (o' := 11) dX8_about_1 rfl fX8_21 (by decide) (by decide) rfl ?_
  refine lk_iload_n dX8_about_4 rfl rfl ?_
  refine lk_callV (o := 11) (as := [lk_vi (b)]) (S := []) dX8_about_5 rfl vX2_has rfl lX8_164 rfl rfl (Nat.le_of_ble_eq_true rfl) (tX2_has_out l X d σ τ (f := 11) (b := (b)) (hf := rfl) (hb := hb)) ?_
  refine lk_k3 ?_
  refine lk_cast (pc' := 8) (S' := [lk_vi 0]) rfl rfl rfl ?_
  refine lk_if_ne (tgt := 13) dX8_about_8 (by decide) (fun hh1 => absurd hh1 (by decide)) (fun hh1 => ?_)
  refine lk_iconst (v := (-1)) dX8_about_11 (by decide) ?_
  refine lk_iret .int dX8_about_12 rfl rfl ?_
  rw [hQ]
  exact ⟨by first | rfl | (simp [*]; done) | (simp_all; done) | grind, by first | rfl | (simp [*]; done), rfl⟩

set_option maxHeartbeats 1000000 in
set_option maxRecDepth 100000 in
theorem tX8_about_ok (l : Launch) (X : lk_G) (d : Nat) (σ : lk_N) (τ : lk_T) (nf b : Nat) (hn : σ 11 5 0 = nI nf) (hb : b < nf) (hn12 : nf ≤ 12) : lk_Mt l X mX8_about (d + 1) [lk_vr 0 0, lk_vi (nI (b))] σ τ (fun rr σ1 τ1 => rr = some (lk_vi (if σ 11 3 b = 0 then 1 else 0)) ∧ σ1 = lk_up σ 11 3 b (if σ 11 3 b = 0 then 1 else 0) ∧ τ1 = τ) := by
  refine lk_met (L := [(0, lk_vr 0 0), (1, lk_vi (nI (b)))]) (by decide +kernel) (Nat.le_of_ble_eq_true rfl) rfl ?_
  obtain ⟨Q, hQ⟩ : ∃ Q : lk_Q, Q = fun rr σ1 τ1 => rr = some (lk_vi (if σ 11 3 b = 0 then 1 else 0)) ∧ σ1 = lk_up σ 11 3 b (if σ 11 3 b = 0 then 1 else 0) ∧ τ1 = τ := ⟨_, rfl⟩
  rw [← hQ]
  refine lk_aload_n dX8_about_0 rfl rfl ?_
  refine lk_getO (f := 1) (o' := 11) dX8_about_1 rfl fX8_21 (by decide) (by decide) rfl ?_
  refine lk_iload_n dX8_about_4 rfl rfl ?_
  refine lk_callV (o := 11) (as := [lk_vi (nI (b))]) (S := []) dX8_about_5 rfl vX2_has rfl lX8_164 rfl rfl (Nat.le_of_ble_eq_true rfl) (tX2_has_in l X d σ τ (f := 11) (b := (b)) (hf := rfl) (n := nf) (hn := hn) (hb := hb) (hn22 := by omega)) ?_
  refine lk_k3 ?_
  refine lk_cast (pc' := 8) (S' := [lk_vi 1]) rfl rfl rfl ?_
  refine lk_if_ne (tgt := 13) dX8_about_8 (by decide) (fun hh1 => ?_) (fun hh1 => absurd hh1 (by decide))
  refine lk_aload_n dX8_about_13 rfl rfl ?_
  refine lk_getO (f := 1) (o' := 11) dX8_about_14 rfl fX8_21 (by decide) (by decide) rfl ?_
  refine lk_getR (f := 3) dX8_about_17 rfl fX8_182 (by decide) (by decide) ?_
  refine lk_iload_n dX8_about_20 rfl rfl ?_
  refine lk_aload_n dX8_about_21 rfl rfl ?_
  refine lk_getO (f := 1) (o' := 11) dX8_about_22 rfl fX8_21 (by decide) (by decide) rfl ?_
  refine lk_getR (f := 3) dX8_about_25 rfl fX8_182 (by decide) (by decide) ?_
  refine lk_iload_n dX8_about_28 rfl rfl ?_
  refine lk_zaldN (f := 3) (i := b) dX8_about_29 rfl (by decide) rfl (by omega) (by decide) ?_
  refine lk_if_ne (tgt := 37) dX8_about_30 (by decide) (fun hh2 => ?_) (fun hh2 => ?_)
  ·
    refine lk_iconst (v := 0) dX8_about_37 (by decide) ?_
    refine lk_zastN (f := 3) (i := b) (v := 0) dX8_about_38 rfl (by decide) rfl (by omega) (by decide) (by decide) ?_
    refine lk_aload_n dX8_about_39 rfl rfl ?_
    refine lk_getO (f := 1) (o' := 11) dX8_about_40 rfl fX8_21 (by decide) (by decide) rfl ?_
    refine lk_getR (f := 3) dX8_about_43 rfl fX8_182 (by decide) (by decide) ?_
    refine lk_iload_n dX8_about_46 rfl rfl ?_
    refine lk_zaldN (f := 3) (i := b) dX8_about_47 rfl (by decide) rfl (by omega) (by decide) ?_
    refine lk_if_eq (tgt := 55) dX8_about_48 (by decide) (fun hh3 => ?_) (fun hh3 => ?_)
    ·
      refine lk_iconst (v := 0) dX8_about_55 (by decide) ?_
      refine lk_iret .int dX8_about_56 rfl rfl ?_
      rw [hQ]
      first | (rw [if_pos (by assumption)]; first | exact ⟨rfl, rfl, rfl⟩ | (exfalso; simp [lk_up] at *)) | (rw [if_neg (by assumption)]; first | exact ⟨rfl, rfl, rfl⟩ | (exfalso; simp [lk_up] at *))
    ·
      refine lk_iconst (v := 1) dX8_about_51 (by decide) ?_
      refine lk_goto (tgt := 56) dX8_about_52 (by decide) ?_
      refine lk_iret .int dX8_about_56 rfl rfl ?_
      rw [hQ]
      first | (rw [if_pos (by assumption)]; first | exact ⟨rfl, rfl, rfl⟩ | (exfalso; simp [lk_up] at *)) | (rw [if_neg (by assumption)]; first | exact ⟨rfl, rfl, rfl⟩ | (exfalso; simp [lk_up] at *))
  ·
    refine lk_iconst (v := 1) dX8_about_33 (by decide) ?_
    refine lk_goto (tgt := 38) dX8_about_34 (by decide) ?_
    refine lk_zastN (f := 3) (i := b) (v := 1) dX8_about_38 rfl (by decide) rfl (by omega) (by decide) (by decide) ?_
    refine lk_aload_n dX8_about_39 rfl rfl ?_
    refine lk_getO (f := 1) (o' := 11) dX8_about_40 rfl fX8_21 (by decide) (by decide) rfl ?_
    refine lk_getR (f := 3) dX8_about_43 rfl fX8_182 (by decide) (by decide) ?_
    refine lk_iload_n dX8_about_46 rfl rfl ?_
    refine lk_zaldN (f := 3) (i := b) dX8_about_47 rfl (by decide) rfl (by omega) (by decide) ?_
    refine lk_if_eq (tgt := 55) dX8_about_48 (by decide) (fun hh4 => ?_) (fun hh4 => ?_)
    ·
      refine lk_iconst (v := 0) dX8_about_55 (by decide) ?_
      refine lk_iret .int dX8_about_56 rfl rfl ?_
      rw [hQ]
      first | (rw [if_pos (by assumption)]; first | exact ⟨rfl, rfl, rfl⟩ | (exfalso; simp [lk_up] at *)) | (rw [if_neg (by assumption)]; first | exact ⟨rfl, rfl, rfl⟩ | (exfalso; simp [lk_up] at *))
    ·
      refine lk_iconst (v := 1) dX8_about_51 (by decide) ?_
      refine lk_goto (tgt := 56) dX8_about_52 (by decide) ?_
      refine lk_iret .int dX8_about_56 rfl rfl ?_
      rw [hQ]
      first | (rw [if_pos (by assumption)]; first | exact ⟨rfl, rfl, rfl⟩ | (exfalso; simp [lk_up] at *)) | (rw [if_neg (by assumption)]; first | exact ⟨rfl, rfl, rfl⟩ | (exfalso; simp [lk_up] at *))

set_option maxHeartbeats 1000000 in
set_option maxRecDepth 100000 in
theorem tX8_why_bad (l : Launch) (X : lk_G) (d : Nat) (σ : lk_N) (τ : lk_T) (i : Int32) (h : i < 0 ∨ 3 < i) : lk_Mt l X mX8_why (d + 1) [lk_vr 0 0, lk_vi (i)] σ τ (fun rr σ1 τ1 => rr = some (lk_vi (-1)) ∧ σ1 = σ ∧ τ1 = τ) := by
  refine lk_met (L := [(0, lk_vr 0 0), (1, lk_vi (i))]) (by decide +kernel) (Nat.le_of_ble_eq_true rfl) rfl ?_
  obtain ⟨Q, hQ⟩ : ∃ Q : lk_Q, Q = fun rr σ1 τ1 => rr = some (lk_vi (-1)) ∧ σ1 = σ ∧ τ1 = τ := ⟨_, rfl⟩
  rw [← hQ]
  refine lk_iload_n dX8_why_0 rfl rfl ?_
  refine lk_if_lt (tgt := 9) dX8_why_1 (by decide) (fun hh1 => ?_) (fun hh1 => ?_)
  ·
    refine lk_iconst (v := (-1)) dX8_why_9 (by decide) ?_
    refine lk_goto (tgt := 24) dX8_why_10 (by decide) ?_
    refine lk_iret .int dX8_why_24 rfl rfl ?_
    rw [hQ]
    exact ⟨by first | rfl | (simp [*]; done) | (simp_all; done) | grind, by first | rfl | (simp [*]; done), rfl⟩
  ·
    refine lk_iload_n dX8_why_4 rfl rfl ?_
    refine lk_iconst (v := 3) dX8_why_5 (by decide) ?_
    refine lk_icmp_le (tgt := 13) dX8_why_6 (by decide) (fun hh2 => ?_) (fun hh2 => ?_)
    ·
      exact absurd h (by rintro (z | z) <;> first | contradiction | exact absurd z (Int32.not_lt.mpr (by assumption)))
    ·
      refine lk_iconst (v := (-1)) dX8_why_9 (by decide) ?_
      refine lk_goto (tgt := 24) dX8_why_10 (by decide) ?_
      refine lk_iret .int dX8_why_24 rfl rfl ?_
      rw [hQ]
      exact ⟨by first | rfl | (simp [*]; done) | (simp_all; done) | grind, by first | rfl | (simp [*]; done), rfl⟩

set_option maxHeartbeats 1000000 in
set_option maxRecDepth 100000 in
theorem tX8_why_ok (l : Launch) (X : lk_G) (d : Nat) (σ : lk_N) (τ : lk_T) (i : Nat) (hi : i ≤ 3) : lk_Mt l X mX8_why (d + 1) [lk_vr 0 0, lk_vi (nI (i))] σ τ (fun rr σ1 τ1 => rr = some (lk_vi (lk_cnum (σ 4) i)) ∧ σ1 = σ ∧ τ1 = τ) := by
  refine lk_met (L := [(0, lk_vr 0 0), (1, lk_vi (nI (i)))]) (by decide +kernel) (Nat.le_of_ble_eq_true rfl) rfl ?_
  obtain ⟨Q, hQ⟩ : ∃ Q : lk_Q, Q = fun rr σ1 τ1 => rr = some (lk_vi (lk_cnum (σ 4) i)) ∧ σ1 = σ ∧ τ1 = τ := ⟨_, rfl⟩
  rw [← hQ]
  refine lk_iload_n dX8_why_0 rfl rfl ?_
  refine lk_if_ltN (a := i) (tgt := 9) dX8_why_1 (by decide) (by omega) (fun hh1 => absurd hh1 (by omega)) (fun hh1 => ?_)
  refine lk_iload_n dX8_why_4 rfl rfl ?_
  refine lk_iconst (v := 3) dX8_why_5 (by decide) ?_
  refine lk_icmp_leN (a := i) (b := 3) (tgt := 13) dX8_why_6 (by decide) (by omega) (by omega) (fun hh2 => ?_) (fun hh2 => absurd hh2 (by omega))
  refine lk_aload_n dX8_why_13 rfl rfl ?_
  refine lk_getO (f := 0) (o' := 2) dX8_why_14 rfl fX8_14 (by decide) (by decide) rfl ?_
  refine lk_getO (f := 11) (o' := 4) dX8_why_17 rfl fX8_216 (by decide) (by decide) rfl ?_
  refine lk_iload_n dX8_why_20 rfl rfl ?_
  refine lk_callV (o := 4) (as := [lk_vi (nI (i))]) (S := []) dX8_why_21 rfl vX1_number rfl lX8_220 rfl rfl (Nat.le_of_ble_eq_true rfl) (tX1_number l X d σ τ (q := 4) (i := (i)) (hq := rfl) (hi := hi)) ?_
  refine lk_k3 ?_
  refine lk_cast (pc' := 24) (S' := [lk_vi (lk_cnum (σ 4) (i))]) rfl rfl rfl ?_
  refine lk_iret .int dX8_why_24 rfl rfl ?_
  rw [hQ]
  exact ⟨by first | rfl | (simp [*]; done) | (simp_all; done) | grind, by first | rfl | (simp [*]; done), rfl⟩

set_option maxHeartbeats 1000000 in
set_option maxRecDepth 100000 in
theorem tX8_water (l : Launch) (X : lk_G) (d : Nat) (σ : lk_N) (τ : lk_T) (n : Nat) (hV : lk_cok (σ 2) n) : lk_Mt l X mX8_water (d + 1) [lk_vr 0 0] σ τ (fun rr σ1 τ1 => rr = some (lk_vi (lk_sm (σ 2 6) (n + 1) + lk_sm (lk_wat (σ 2)) n)) ∧ σ1 = σ ∧ τ1 = τ) := by
  refine lk_met (L := [(0, lk_vr 0 0)]) (by decide +kernel) (Nat.le_of_ble_eq_true rfl) rfl ?_
  obtain ⟨Q, hQ⟩ : ∃ Q : lk_Q, Q = fun rr σ1 τ1 => rr = some (lk_vi (lk_sm (σ 2 6) (n + 1) + lk_sm (lk_wat (σ 2)) n)) ∧ σ1 = σ ∧ τ1 = τ := ⟨_, rfl⟩
  rw [← hQ]
  refine lk_aload_n dX8_water_0 rfl rfl ?_
  refine lk_getO (f := 0) (o' := 2) dX8_water_1 rfl fX8_14 (by decide) (by decide) rfl ?_
  refine lk_callV (o := 2) (as := []) (S := []) dX8_water_4 rfl vX0_allWater rfl lX8_322 rfl rfl (Nat.le_of_ble_eq_true rfl) (tX0_allWater l X d σ τ (c := 2) (hc := rfl) (n := n) (hn := hV.1) (hn6 := hV.2.2.1)) ?_
  refine lk_k3 ?_
  refine lk_cast (pc' := 7) (S' := [lk_vi (lk_sm (σ 2 6) (n + 1) + lk_sm (lk_wat (σ 2)) n)]) rfl rfl rfl ?_
  refine lk_iret .int dX8_water_7 rfl rfl ?_
  rw [hQ]
  exact ⟨by first | rfl | (simp [*]; done) | (simp_all; done) | grind, by first | rfl | (simp [*]; done), rfl⟩

set_option maxHeartbeats 1000000 in
set_option maxRecDepth 100000 in
theorem tX8_account (l : Launch) (X : lk_G) (d : Nat) (σ : lk_N) (τ : lk_T)  : lk_Mt l X mX8_account d [lk_vr 0 0] σ τ (fun rr σ1 τ1 => rr = some (lk_vl (τ 0 3)) ∧ σ1 = σ ∧ τ1 = τ) := by
  refine lk_met (L := [(0, lk_vr 0 0)]) (by decide +kernel) (Nat.le_of_ble_eq_true rfl) rfl ?_
  obtain ⟨Q, hQ⟩ : ∃ Q : lk_Q, Q = fun rr σ1 τ1 => rr = some (lk_vl (τ 0 3)) ∧ σ1 = σ ∧ τ1 = τ := ⟨_, rfl⟩
  rw [← hQ]
  refine lk_aload_n dX8_account_0 rfl rfl ?_
  refine lk_getL (f := 3) dX8_account_1 rfl fX8_347 (by decide) (by decide) ?_
  refine lk_lret dX8_account_4 rfl ?_
  rw [hQ]
  exact ⟨by first | rfl | (simp [*]; done) | (simp_all; done) | grind, by first | rfl | (simp [*]; done), rfl⟩
