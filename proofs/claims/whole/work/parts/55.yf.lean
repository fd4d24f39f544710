theorem lk_isl {V : lk_O} {T : lk_O} {σ : lk_N} {n k : Nat} (hV : lk_cok V n) (hk : k < n) : (0 : Int32) ≤ nI k ∧ nI k ≤ lk_ms σ V T 1 0 53 - 1 := by
  have h6 := hV.2.2.1
  refine ⟨nI_pos' (by omega), ?_⟩
  rw [lk_r0 rfl rfl, hV.1, lk_sub1 (by omega) (by omega)]; exact nI_le (by omega) (by omega)
theorem lk_nisl {V : lk_O} {T : lk_O} {σ : lk_N} {n : Nat} (hV : lk_cok V n) : ¬ ((0 : Int32) ≤ nI n ∧ nI n ≤ lk_ms σ V T 1 0 53 - 1) := by
  have h6 := hV.2.2.1
  rw [lk_r0 rfl rfl, hV.1]
  rintro ⟨_, h⟩
  rw [lk_sub1 hV.2.1 (by omega)] at h
  have := Int32.le_iff_toInt_le.mp h
  rw [nI_toInt (by omega), nI_toInt (by omega)] at this
  have := hV.2.1
  omega
theorem lk_nislm {V : lk_O} {T : lk_O} {σ : lk_N} : ¬ ((0 : Int32) ≤ nI 0 - 1 ∧ nI 0 - 1 ≤ lk_ms σ V T 1 0 53 - 1) := fun h => absurd h.1 (by decide)
theorem lk_isb {σ : lk_N} {nf b : Nat} (hn : σ 1 0 114 = nI nf) (hb : b < nf) (hn12 : nf ≤ 12) : (0 : Int32) ≤ nI b ∧ nI b ≤ σ 1 0 114 - 1 := by
  refine ⟨nI_pos' (by omega), ?_⟩
  rw [hn, lk_sub1 (by omega) (by omega)]; exact nI_le (by omega) (by omega)
theorem lk_nim2 {k : Nat} (h : k < 2147483648) : ¬ nI k = -2 := by
  intro e
  have := congrArg Int32.toInt e
  rw [nI_toInt h, show (-2 : Int32).toInt = -2 from rfl] at this
  omega
set_option maxHeartbeats 1000000 in
set_option maxRecDepth 100000 in
theorem tX9_isUp_1 (l : Launch) (X : lk_G) (d : Nat) (σ : lk_N) (τ : lk_T) (V T : lk_O) (b : Nat) (hb : b < 12) (hu : σ 1 0 (90 + b) = 1) : lk_Mt l X mX9_isUp d [lk_vr 1 0, lk_vi (nI (b))] (lk_ms σ V T) τ (fun rr σ1 τ1 => rr = some (lk_vi 1) ∧ σ1 = (lk_ms σ V T) ∧ τ1 = τ) := by
  refine lk_met (L := [(0, lk_vr 1 0), (1, lk_vi (nI (b)))]) (by decide +kernel) (Nat.le_of_ble_eq_true rfl) rfl ?_
  obtain ⟨Q, hQ⟩ : ∃ Q : lk_Q, Q = fun rr σ1 τ1 => rr = some (lk_vi 1) ∧ σ1 = (lk_ms σ V T) ∧ τ1 = τ := ⟨_, rfl⟩
  rw [← hQ]
  refine lk_aload_n dX9_isUp_0 rfl rfl ?_
  refine lk_getR (f := 0) dX9_isUp_1 rfl fX9_9 (by decide) (by decide) ?_
  refine lk_bipush (v := 90) dX9_isUp_4 (by decide) ?_
  refine lk_iload_n dX9_isUp_6 rfl rfl ?_
  refine lk_iaddN (a := 90) (b := b) dX9_isUp_7 ?_
  refine lk_ialdN (f := 0) (i := 90 + b) dX9_isUp_8 rfl (by decide) rfl (by omega) (by decide) ?_
  refine lk_eqtop (y := (σ 1 0 (90 + b))) ((lk_rB (by omega)).trans rfl) ?_
  refine lk_iconst (v := 1) dX9_isUp_9 (by decide) ?_
  refine lk_icmp_ne (tgt := 17) dX9_isUp_10 (by decide) (fun hh1 => absurd hh1 (fun q => q hu)) (fun hh1 => ?_)
  refine lk_iconst (v := 1) dX9_isUp_13 (by decide) ?_
  refine lk_goto (tgt := 18) dX9_isUp_14 (by decide) ?_
  refine lk_iret .boolean dX9_isUp_18 rfl rfl ?_
  rw [hQ]
  exact ⟨by first | rfl | (simp [*]; done) | (simp_all; done) | grind, by first | rfl | (simp [*]; done), rfl⟩

set_option maxHeartbeats 1000000 in
set_option maxRecDepth 100000 in
theorem tX9_isUp_0 (l : Launch) (X : lk_G) (d : Nat) (σ : lk_N) (τ : lk_T) (V T : lk_O) (b : Nat) (hb : b < 12) (hu : σ 1 0 (90 + b) = 0) : lk_Mt l X mX9_isUp d [lk_vr 1 0, lk_vi (nI (b))] (lk_ms σ V T) τ (fun rr σ1 τ1 => rr = some (lk_vi 0) ∧ σ1 = (lk_ms σ V T) ∧ τ1 = τ) := by
  refine lk_met (L := [(0, lk_vr 1 0), (1, lk_vi (nI (b)))]) (by decide +kernel) (Nat.le_of_ble_eq_true rfl) rfl ?_
  obtain ⟨Q, hQ⟩ : ∃ Q : lk_Q, Q = fun rr σ1 τ1 => rr = some (lk_vi 0) ∧ σ1 = (lk_ms σ V T) ∧ τ1 = τ := ⟨_, rfl⟩
  rw [← hQ]
  refine lk_aload_n dX9_isUp_0 rfl rfl ?_
  refine lk_getR (f := 0) dX9_isUp_1 rfl fX9_9 (by decide) (by decide) ?_
  refine lk_bipush (v := 90) dX9_isUp_4 (by decide) ?_
  refine lk_iload_n dX9_isUp_6 rfl rfl ?_
  refine lk_iaddN (a := 90) (b := b) dX9_isUp_7 ?_
  refine lk_ialdN (f := 0) (i := 90 + b) dX9_isUp_8 rfl (by decide) rfl (by omega) (by decide) ?_
  refine lk_eqtop (y := (σ 1 0 (90 + b))) ((lk_rB (by omega)).trans rfl) ?_
  refine lk_iconst (v := 1) dX9_isUp_9 (by decide) ?_
  refine lk_icmp_ne (tgt := 17) dX9_isUp_10 (by decide) (fun hh1 => ?_) (fun hh1 => absurd hh1 (by rw [hu]; decide))
  refine lk_iconst (v := 0) dX9_isUp_17 (by decide) ?_
  refine lk_iret .boolean dX9_isUp_18 rfl rfl ?_
  rw [hQ]
  exact ⟨by first | rfl | (simp [*]; done) | (simp_all; done) | grind, by first | rfl | (simp [*]; done), rfl⟩

set_option maxHeartbeats 1000000 in
set_option maxRecDepth 100000 in
theorem tX9_lockOf_up (l : Launch) (X : lk_G) (d : Nat) (σ : lk_N) (τ : lk_T) (V T : lk_O) (b : Nat) (hb : b < 12) (hu : σ 1 0 (90 + b) = 1) (n k : Nat) (hV : lk_cok V n) (hk : k < n) (hr : σ 1 0 (102 + b) = nI k) : lk_Mt l X mX9_lockOf (d + 2) [lk_vr 1 0, lk_vi (nI (b))] (lk_ms σ V T) τ (fun rr σ1 τ1 => rr = some (lk_vi (nI (k))) ∧ σ1 = (lk_ms σ V T) ∧ τ1 = τ) := by
  refine lk_met (L := [(0, lk_vr 1 0), (1, lk_vi (nI (b)))]) (by decide +kernel) (Nat.le_of_ble_eq_true rfl) rfl ?_
  obtain ⟨Q, hQ⟩ : ∃ Q : lk_Q, Q = fun rr σ1 τ1 => rr = some (lk_vi (nI (k))) ∧ σ1 = (lk_ms σ V T) ∧ τ1 = τ := ⟨_, rfl⟩
  rw [← hQ]
  refine lk_aload_n dX9_lockOf_0 rfl rfl ?_
  refine lk_iload_n dX9_lockOf_1 rfl rfl ?_
  refine lk_callV (o := 1) (as := [lk_vi (nI (b))]) (S := []) dX9_lockOf_2 rfl vX9_isUp rfl lX9_148 rfl rfl (Nat.le_of_ble_eq_true rfl) (tX9_isUp_1 l X (d + 1) σ τ (b := (b)) (V := V) (T := T) (hb := hb) (hu := hu)) ?_
  refine lk_k3 ?_
  refine lk_cast (pc' := 5) (S' := [lk_vi 1]) rfl rfl rfl ?_
  refine lk_if_eq (tgt := 20) dX9_lockOf_5 (by decide) (fun hh1 => absurd hh1 (by decide)) (fun hh1 => ?_)
  refine lk_aload_n dX9_lockOf_8 rfl rfl ?_
  refine lk_getR (f := 0) dX9_lockOf_9 rfl fX9_9 (by decide) (by decide) ?_
  refine lk_bipush (v := 102) dX9_lockOf_12 (by decide) ?_
  refine lk_iload_n dX9_lockOf_14 rfl rfl ?_
  refine lk_iaddN (a := 102) (b := b) dX9_lockOf_15 ?_
  refine lk_ialdN (f := 0) (i := 102 + b) dX9_lockOf_16 rfl (by decide) rfl (by omega) (by decide) ?_
  refine lk_eqtop (y := (nI (k))) ((lk_rB (by omega)).trans hr) ?_
  refine lk_goto (tgt := 31) dX9_lockOf_17 (by decide) ?_
  refine lk_istore_n (L' := [(0, lk_vr 1 0), (1, lk_vi (nI (b))), (2, lk_vi (nI (k)))]) dX9_lockOf_31 rfl (by decide +kernel) rfl ?_
  refine lk_aload_n dX9_lockOf_32 rfl rfl ?_
  refine lk_iload_n dX9_lockOf_33 rfl rfl ?_
  refine lk_callV (o := 1) (as := [lk_vi (nI (k))]) (S := []) dX9_lockOf_34 rfl vX9_isLock rfl lX9_50 rfl rfl (Nat.le_of_ble_eq_true rfl) (tX9_isLock l X d (lk_ms σ V T) τ (k := (nI (k))) ) ?_
  refine lk_k3 ?_
  refine lk_cast (pc' := 37) (S' := [lk_vi (if (0 : Int32) ≤ (nI (k)) ∧ (nI (k)) ≤ (lk_ms σ V T) 1 0 53 - 1 then 1 else 0)]) rfl rfl rfl ?_
  refine lk_if_eqB (tgt := 44) dX9_lockOf_37 (by decide) (fun hh2 => absurd hh2 (fun q => q (lk_isl hV hk))) (fun hh2 => ?_)
  refine lk_iload_n dX9_lockOf_40 rfl rfl ?_
  refine lk_goto (tgt := 46) dX9_lockOf_41 (by decide) ?_
  refine lk_iret .int dX9_lockOf_46 rfl rfl ?_
  rw [hQ]
  exact ⟨by first | rfl | (simp [*]; done) | (simp_all; done) | grind, by first | rfl | (simp [*]; done), rfl⟩

set_option maxHeartbeats 1000000 in
set_option maxRecDepth 100000 in
theorem tX9_lockOf_up0 (l : Launch) (X : lk_G) (d : Nat) (σ : lk_N) (τ : lk_T) (V T : lk_O) (b : Nat) (hb : b < 12) (hu : σ 1 0 (90 + b) = 1) (n : Nat) (hV : lk_cok V n) (hr : σ 1 0 (102 + b) = nI n) : lk_Mt l X mX9_lockOf (d + 2) [lk_vr 1 0, lk_vi (nI (b))] (lk_ms σ V T) τ (fun rr σ1 τ1 => rr = some (lk_vi (-2)) ∧ σ1 = (lk_ms σ V T) ∧ τ1 = τ) := by
  refine lk_met (L := [(0, lk_vr 1 0), (1, lk_vi (nI (b)))]) (by decide +kernel) (Nat.le_of_ble_eq_true rfl) rfl ?_
  obtain ⟨Q, hQ⟩ : ∃ Q : lk_Q, Q = fun rr σ1 τ1 => rr = some (lk_vi (-2)) ∧ σ1 = (lk_ms σ V T) ∧ τ1 = τ := ⟨_, rfl⟩
  rw [← hQ]
  refine lk_aload_n dX9_lockOf_0 rfl rfl ?_
  refine lk_iload_n dX9_lockOf_1 rfl rfl ?_
  refine lk_callV (o := 1) (as := [lk_vi (nI (b))]) (S := []) dX9_lockOf_2 rfl vX9_isUp rfl lX9_148 rfl rfl (Nat.le_of_ble_eq_true rfl) (tX9_isUp_1 l X (d + 1) σ τ (b := (b)) (V := V) (T := T) (hb := hb) (hu := hu)) ?_
  refine lk_k3 ?_
  refine lk_cast (pc' := 5) (S' := [lk_vi 1]) rfl rfl rfl ?_
  refine lk_if_eq (tgt := 20) dX9_lockOf_5 (by decide) (fun hh1 => absurd hh1 (by decide)) (fun hh1 => ?_)
  refine lk_aload_n dX9_lockOf_8 rfl rfl ?_
  refine lk_getR (f := 0) dX9_lockOf_9 rfl fX9_9 (by decide) (by decide) ?_
  refine lk_bipush (v := 102) dX9_lockOf_12 (by decide) ?_
  refine lk_iload_n dX9_lockOf_14 rfl rfl ?_
  refine lk_iaddN (a := 102) (b := b) dX9_lockOf_15 ?_
  refine lk_ialdN (f := 0) (i := 102 + b) dX9_lockOf_16 rfl (by decide) rfl (by omega) (by decide) ?_
  refine lk_eqtop (y := (nI (n))) ((lk_rB (by omega)).trans hr) ?_
  refine lk_goto (tgt := 31) dX9_lockOf_17 (by decide) ?_
  refine lk_istore_n (L' := [(0, lk_vr 1 0), (1, lk_vi (nI (b))), (2, lk_vi (nI (n)))]) dX9_lockOf_31 rfl (by decide +kernel) rfl ?_
  refine lk_aload_n dX9_lockOf_32 rfl rfl ?_
  refine lk_iload_n dX9_lockOf_33 rfl rfl ?_
  refine lk_callV (o := 1) (as := [lk_vi (nI (n))]) (S := []) dX9_lockOf_34 rfl vX9_isLock rfl lX9_50 rfl rfl (Nat.le_of_ble_eq_true rfl) (tX9_isLock l X d (lk_ms σ V T) τ (k := (nI (n))) ) ?_
  refine lk_k3 ?_
  refine lk_cast (pc' := 37) (S' := [lk_vi (if (0 : Int32) ≤ (nI (n)) ∧ (nI (n)) ≤ (lk_ms σ V T) 1 0 53 - 1 then 1 else 0)]) rfl rfl rfl ?_
  refine lk_if_eqB (tgt := 44) dX9_lockOf_37 (by decide) (fun hh2 => ?_) (fun hh2 => absurd hh2 (lk_nisl hV))
  refine lk_bipush (v := (-2)) dX9_lockOf_44 (by decide) ?_
  refine lk_iret .int dX9_lockOf_46 rfl rfl ?_
  rw [hQ]
  exact ⟨by first | rfl | (simp [*]; done) | (simp_all; done) | grind, by first | rfl | (simp [*]; done), rfl⟩

set_option maxHeartbeats 1000000 in
set_option maxRecDepth 100000 in
theorem tX9_lockOf_dn (l : Launch) (X : lk_G) (d : Nat) (σ : lk_N) (τ : lk_T) (V T : lk_O) (b : Nat) (hb : b < 12) (hu : σ 1 0 (90 + b) = 0) (n k : Nat) (hV : lk_cok V n) (hk : k < n) (hr : σ 1 0 (102 + b) = nI (k + 1)) : lk_Mt l X mX9_lockOf (d + 2) [lk_vr 1 0, lk_vi (nI (b))] (lk_ms σ V T) τ (fun rr σ1 τ1 => rr = some (lk_vi (nI (k))) ∧ σ1 = (lk_ms σ V T) ∧ τ1 = τ) := by
  refine lk_met (L := [(0, lk_vr 1 0), (1, lk_vi (nI (b)))]) (by decide +kernel) (Nat.le_of_ble_eq_true rfl) rfl ?_
  obtain ⟨Q, hQ⟩ : ∃ Q : lk_Q, Q = fun rr σ1 τ1 => rr = some (lk_vi (nI (k))) ∧ σ1 = (lk_ms σ V T) ∧ τ1 = τ := ⟨_, rfl⟩
  rw [← hQ]
  refine lk_aload_n dX9_lockOf_0 rfl rfl ?_
  refine lk_iload_n dX9_lockOf_1 rfl rfl ?_
  refine lk_callV (o := 1) (as := [lk_vi (nI (b))]) (S := []) dX9_lockOf_2 rfl vX9_isUp rfl lX9_148 rfl rfl (Nat.le_of_ble_eq_true rfl) (tX9_isUp_0 l X (d + 1) σ τ (b := (b)) (V := V) (T := T) (hb := hb) (hu := hu)) ?_
  refine lk_k3 ?_
  refine lk_cast (pc' := 5) (S' := [lk_vi 0]) rfl rfl rfl ?_
  refine lk_if_eq (tgt := 20) dX9_lockOf_5 (by decide) (fun hh1 => ?_) (fun hh1 => absurd hh1 (by decide))
  refine lk_aload_n dX9_lockOf_20 rfl rfl ?_
  refine lk_getR (f := 0) dX9_lockOf_21 rfl fX9_9 (by decide) (by decide) ?_
  refine lk_bipush (v := 102) dX9_lockOf_24 (by decide) ?_
  refine lk_iload_n dX9_lockOf_26 rfl rfl ?_
  refine lk_iaddN (a := 102) (b := b) dX9_lockOf_27 ?_
  refine lk_ialdN (f := 0) (i := 102 + b) dX9_lockOf_28 rfl (by decide) rfl (by omega) (by decide) ?_
  refine lk_eqtop (y := (nI (k + 1))) ((lk_rB (by omega)).trans hr) ?_
  refine lk_iconst (v := 1) dX9_lockOf_29 (by decide) ?_
  refine lk_isub dX9_lockOf_30 ?_
  rw [show nI (k + 1) - 1 = nI k from nI_pred k]
  refine lk_istore_n (L' := [(0, lk_vr 1 0), (1, lk_vi (nI (b))), (2, lk_vi (nI (k)))]) dX9_lockOf_31 rfl (by decide +kernel) rfl ?_
  refine lk_aload_n dX9_lockOf_32 rfl rfl ?_
  refine lk_iload_n dX9_lockOf_33 rfl rfl ?_
  refine lk_callV (o := 1) (as := [lk_vi (nI (k))]) (S := []) dX9_lockOf_34 rfl vX9_isLock rfl lX9_50 rfl rfl (Nat.le_of_ble_eq_true rfl) (tX9_isLock l X d (lk_ms σ V T) τ (k := (nI (k))) ) ?_
  refine lk_k3 ?_
  refine lk_cast (pc' := 37) (S' := [lk_vi (if (0 : Int32) ≤ (nI (k)) ∧ (nI (k)) ≤ (lk_ms σ V T) 1 0 53 - 1 then 1 else 0)]) rfl rfl rfl ?_
  refine lk_if_eqB (tgt := 44) dX9_lockOf_37 (by decide) (fun hh2 => absurd hh2 (fun q => q (lk_isl hV hk))) (fun hh2 => ?_)
  refine lk_iload_n dX9_lockOf_40 rfl rfl ?_
  refine lk_goto (tgt := 46) dX9_lockOf_41 (by decide) ?_
  refine lk_iret .int dX9_lockOf_46 rfl rfl ?_
  rw [hQ]
  exact ⟨by first | rfl | (simp [*]; done) | (simp_all; done) | grind, by first | rfl | (simp [*]; done), rfl⟩

set_option maxHeartbeats 1000000 in
set_option maxRecDepth 100000 in
theorem tX9_lockOf_dn0 (l : Launch) (X : lk_G) (d : Nat) (σ : lk_N) (τ : lk_T) (V T : lk_O) (b : Nat) (hb : b < 12) (hu : σ 1 0 (90 + b) = 0) (n : Nat) (hV : lk_cok V n) (hr : σ 1 0 (102 + b) = nI 0) : lk_Mt l X mX9_lockOf (d + 2) [lk_vr 1 0, lk_vi (nI (b))] (lk_ms σ V T) τ (fun rr σ1 τ1 => rr = some (lk_vi (-2)) ∧ σ1 = (lk_ms σ V T) ∧ τ1 = τ) := by
  refine lk_met (L := [(0, lk_vr 1 0), (1, lk_vi (nI (b)))]) (by decide +kernel) (Nat.le_of_ble_eq_true rfl) rfl ?_
  obtain ⟨Q, hQ⟩ : ∃ Q : lk_Q, Q = fun rr σ1 τ1 => rr = some (lk_vi (-2)) ∧ σ1 = (lk_ms σ V T) ∧ τ1 = τ := ⟨_, rfl⟩
  rw [← hQ]
  refine lk_aload_n dX9_lockOf_0 rfl rfl ?_
  refine lk_iload_n dX9_lockOf_1 rfl rfl ?_
  refine lk_callV (o := 1) (as := [lk_vi (nI (b))]) (S := []) dX9_lockOf_2 rfl vX9_isUp rfl lX9_148 rfl rfl (Nat.le_of_ble_eq_true rfl) (tX9_isUp_0 l X (d + 1) σ τ (b := (b)) (V := V) (T := T) (hb := hb) (hu := hu)) ?_
  refine lk_k3 ?_
  refine lk_cast (pc' := 5) (S' := [lk_vi 0]) rfl rfl rfl ?_
  refine lk_if_eq (tgt := 20) dX9_lockOf_5 (by decide) (fun hh1 => ?_) (fun hh1 => absurd hh1 (by decide))
  refine lk_aload_n dX9_lockOf_20 rfl rfl ?_
  refine lk_getR (f := 0) dX9_lockOf_21 rfl fX9_9 (by decide) (by decide) ?_
  refine lk_bipush (v := 102) dX9_lockOf_24 (by decide) ?_
  refine lk_iload_n dX9_lockOf_26 rfl rfl ?_
  refine lk_iaddN (a := 102) (b := b) dX9_lockOf_27 ?_
  refine lk_ialdN (f := 0) (i := 102 + b) dX9_lockOf_28 rfl (by decide) rfl (by omega) (by decide) ?_
  refine lk_eqtop (y := 0) ((lk_rB (by omega)).trans hr) ?_
  refine lk_iconst (v := 1) dX9_lockOf_29 (by decide) ?_
  refine lk_isub dX9_lockOf_30 ?_
  refine lk_istore_n (L' := [(0, lk_vr 1 0), (1, lk_vi (nI (b))), (2, lk_vi (0 - 1))]) dX9_lockOf_31 rfl (by decide +kernel) rfl ?_
  refine lk_aload_n dX9_lockOf_32 rfl rfl ?_
  refine lk_iload_n dX9_lockOf_33 rfl rfl ?_
  refine lk_callV (o := 1) (as := [lk_vi (0 - 1)]) (S := []) dX9_lockOf_34 rfl vX9_isLock rfl lX9_50 rfl rfl (Nat.le_of_ble_eq_true rfl) (tX9_isLock l X d (lk_ms σ V T) τ (k := (0 - 1)) ) ?_
  refine lk_k3 ?_
  refine lk_cast (pc' := 37) (S' := [lk_vi (if (0 : Int32) ≤ (0 - 1) ∧ (0 - 1) ≤ (lk_ms σ V T) 1 0 53 - 1 then 1 else 0)]) rfl rfl rfl ?_
  refine lk_if_eqB (tgt := 44) dX9_lockOf_37 (by decide) (fun hh2 => ?_) (fun hh2 => absurd hh2 (lk_nislm))
  refine lk_bipush (v := (-2)) dX9_lockOf_44 (by decide) ?_
  refine lk_iret .int dX9_lockOf_46 rfl rfl ?_
  rw [hQ]
  exact ⟨by first | rfl | (simp [*]; done) | (simp_all; done) | grind, by first | rfl | (simp [*]; done), rfl⟩

set_option maxHeartbeats 1000000 in
set_option maxRecDepth 100000 in
theorem tX9_boatGoes_up1_ok (l : Launch) (X : lk_G) (d : Nat) (σ : lk_N) (τ : lk_T) (V T : lk_O) (b : Nat) (hb : b < 12) (n k : Nat) (z : Int32) (hV : lk_cok V n) (hr : lk_rok V) (hk : k < n) (hu : σ 1 0 (90 + b) = 1) (hre : σ 1 0 (102 + b) = nI k) (hs : σ 1 0 (66 + b) = z) (hz : 0 ≤ z.toInt) (hz9 : z.toInt ≤ 9) (W : lk_O) (h : lk_pas V k true z = .inl W) : lk_Mt l X mX9_boatGoes (d + 4) [lk_vr 1 0, lk_vi (nI (b)), lk_vi 1] (lk_ms σ V T) τ (fun rr σ1 τ1 => rr = some (lk_vi 1) ∧ σ1 = (lk_ms (lk_up (lk_up σ 1 6 0 (V 6 (k + 1) - W 6 (k + 1))) 1 0 (102 + b) (nI (k + 1))) W (lk_tad T (V 6 (k + 1) - W 6 (k + 1)))) ∧ τ1 = τ) := by
  refine lk_met (L := [(0, lk_vr 1 0), (1, lk_vi (nI (b))), (2, lk_vi 1)]) (by decide +kernel) (Nat.le_of_ble_eq_true rfl) rfl ?_
  obtain ⟨Q, hQ⟩ : ∃ Q : lk_Q, Q = fun rr σ1 τ1 => rr = some (lk_vi 1) ∧ σ1 = (lk_ms (lk_up (lk_up σ 1 6 0 (V 6 (k + 1) - W 6 (k + 1))) 1 0 (102 + b) (nI (k + 1))) W (lk_tad T (V 6 (k + 1) - W 6 (k + 1)))) ∧ τ1 = τ := ⟨_, rfl⟩
  rw [← hQ]
  refine lk_aload_n dX9_boatGoes_0 rfl rfl ?_
  refine lk_iload_n dX9_boatGoes_1 rfl rfl ?_
  refine lk_callV (o := 1) (as := [lk_vi (nI (b))]) (S := []) dX9_boatGoes_2 rfl vX9_lockOf rfl lX9_151 rfl rfl (Nat.le_of_ble_eq_true rfl) (tX9_lockOf_up l X (d + 1) σ τ (b := (b)) (V := V) (T := T) (hb := hb) (n := n) (k := k) (hV := hV) (hk := hk) (hu := hu) (hr := hre)) ?_
  refine lk_k3 ?_
  refine lk_cast (pc' := 5) (S' := [lk_vi (nI (k))]) rfl rfl rfl ?_
  refine lk_istore_n (L' := [(0, lk_vr 1 0), (1, lk_vi (nI (b))), (2, lk_vi 1), (3, lk_vi (nI (k)))]) dX9_boatGoes_5 rfl (by decide +kernel) rfl ?_
  refine lk_aload_n dX9_boatGoes_6 rfl rfl ?_
  refine lk_iload_n dX9_boatGoes_7 rfl rfl ?_
  refine lk_callV (o := 1) (as := [lk_vi (nI (b))]) (S := []) dX9_boatGoes_8 rfl vX9_isUp rfl lX9_148 rfl rfl (Nat.le_of_ble_eq_true rfl) (tX9_isUp_1 l X (d + 3) σ τ (b := (b)) (V := V) (T := T) (hb := hb) (hu := hu)) ?_
  refine lk_k3 ?_
  refine lk_cast (pc' := 11) (S' := [lk_vi 1]) rfl rfl rfl ?_
  refine lk_istore (L' := [(0, lk_vr 1 0), (1, lk_vi (nI (b))), (2, lk_vi 1), (3, lk_vi (nI (k))), (4, lk_vi 1)]) dX9_boatGoes_11 (by decide +kernel) rfl ?_
  refine lk_iload_n dX9_boatGoes_13 rfl rfl ?_
  refine lk_if_eq (tgt := 39) dX9_boatGoes_14 (by decide) (fun hh1 => absurd hh1 (by decide)) (fun hh1 => ?_)
  refine lk_aload_n dX9_boatGoes_17 rfl rfl ?_
  refine lk_iload_n dX9_boatGoes_18 rfl rfl ?_
  refine lk_iload dX9_boatGoes_19 rfl ?_
  refine lk_aload_n dX9_boatGoes_21 rfl rfl ?_
  refine lk_getR (f := 0) dX9_boatGoes_22 rfl fX9_9 (by decide) (by decide) ?_
  refine lk_bipush (v := 66) dX9_boatGoes_25 (by decide) ?_
  refine lk_iload_n dX9_boatGoes_27 rfl rfl ?_
  refine lk_iaddN (a := 66) (b := b) dX9_boatGoes_28 ?_
  refine lk_ialdN (f := 0) (i := 66 + b) dX9_boatGoes_29 rfl (by decide) rfl (by omega) (by decide) ?_
  refine lk_eqtop (y := (z)) ((lk_rB (by omega)).trans hs) ?_
  refine lk_callV (o := 1) (as := [lk_vi (nI (k)), lk_vi 1, lk_vi (z)]) (S := []) dX9_boatGoes_30 rfl vX9_goesTruly rfl lX9_154 rfl rfl (Nat.le_of_ble_eq_true rfl) (tX9_truly_up_ok l X d σ τ (k := (k)) (z := (z)) (V := V) (T := T) (n := n) (hV := hV) (hr := hr) (hk := hk) (hz := hz) (hz9 := hz9) (W := W) (h := h)) ?_
  refine lk_k3 ?_
  refine lk_cast (pc' := 33) (S' := [lk_vi 1]) rfl rfl rfl ?_
  refine lk_if_ne (tgt := 60) dX9_boatGoes_33 (by decide) (fun hh2 => ?_) (fun hh2 => absurd hh2 (by decide))
  refine lk_aload_n dX9_boatGoes_60 rfl rfl ?_
  refine lk_getR (f := 0) dX9_boatGoes_61 rfl fX9_9 (by decide) (by decide) ?_
  refine lk_bipush (v := 102) dX9_boatGoes_64 (by decide) ?_
  refine lk_iload_n dX9_boatGoes_66 rfl rfl ?_
  refine lk_iaddN (a := 102) (b := b) dX9_boatGoes_67 ?_
  refine lk_iload dX9_boatGoes_68 rfl ?_
  refine lk_if_eq (tgt := 79) dX9_boatGoes_70 (by decide) (fun hh3 => absurd hh3 (by decide)) (fun hh3 => ?_)
  refine lk_iload_n dX9_boatGoes_73 rfl rfl ?_
  refine lk_iconst (v := 1) dX9_boatGoes_74 (by decide) ?_
  refine lk_iaddN (a := k) (b := 1) dX9_boatGoes_75 ?_
  refine lk_goto (tgt := 80) dX9_boatGoes_76 (by decide) ?_
  refine lk_iastN (f := 0) (i := 102 + b) (v := (nI (k + 1))) dX9_boatGoes_80 rfl (by decide) rfl (by omega) (by decide) ?_
  refine lk_sg (σ' := (lk_ms (lk_up (lk_up σ 1 6 0 (V 6 ((k) + 1) - W 6 ((k) + 1))) 1 0 (102 + b) (nI (k + 1))) W (lk_tad T (V 6 ((k) + 1) - W 6 ((k) + 1))))) (lk_wB (by omega)) ?_
  refine lk_iconst (v := 1) dX9_boatGoes_81 (by decide) ?_
  refine lk_iret .boolean dX9_boatGoes_82 rfl rfl ?_
  rw [hQ]
  exact ⟨by first | rfl | (simp [*]; done) | (simp_all; done) | grind, by first | rfl | (simp [*]; done), rfl⟩

set_option maxHeartbeats 1000000 in
set_option maxRecDepth 100000 in
theorem tX9_boatGoes_up1_no (l : Launch) (X : lk_G) (d : Nat) (σ : lk_N) (τ : lk_T) (V T : lk_O) (b : Nat) (hb : b < 12) (n k : Nat) (z : Int32) (hV : lk_cok V n) (hr : lk_rok V) (hk : k < n) (hu : σ 1 0 (90 + b) = 1) (hre : σ 1 0 (102 + b) = nI k) (hs : σ 1 0 (66 + b) = z) (hz : 0 ≤ z.toInt) (hz9 : z.toInt ≤ 9) (q : Int32 × Nat × Int32) (h : lk_pas V k true z = .inr q) : lk_Mt l X mX9_boatGoes (d + 4) [lk_vr 1 0, lk_vi (nI (b)), lk_vi 1] (lk_ms σ V T) τ (fun rr σ1 τ1 => rr = some (lk_vi 0) ∧ τ1 = τ ∧ ∃ s : Int32, σ1 = (lk_ms (lk_cau (lk_up (lk_bar σ q) 1 6 0 s) k q) V T)) := by
  refine lk_met (L := [(0, lk_vr 1 0), (1, lk_vi (nI (b))), (2, lk_vi 1)]) (by decide +kernel) (Nat.le_of_ble_eq_true rfl) rfl ?_
  obtain ⟨Q, hQ⟩ : ∃ Q : lk_Q, Q = fun rr σ1 τ1 => rr = some (lk_vi 0) ∧ τ1 = τ ∧ ∃ s : Int32, σ1 = (lk_ms (lk_cau (lk_up (lk_bar σ q) 1 6 0 s) k q) V T) := ⟨_, rfl⟩
  rw [← hQ]
  refine lk_aload_n dX9_boatGoes_0 rfl rfl ?_
  refine lk_iload_n dX9_boatGoes_1 rfl rfl ?_
  refine lk_callV (o := 1) (as := [lk_vi (nI (b))]) (S := []) dX9_boatGoes_2 rfl vX9_lockOf rfl lX9_151 rfl rfl (Nat.le_of_ble_eq_true rfl) (tX9_lockOf_up l X (d + 1) σ τ (b := (b)) (V := V) (T := T) (hb := hb) (n := n) (k := k) (hV := hV) (hk := hk) (hu := hu) (hr := hre)) ?_
  refine lk_k3 ?_
  refine lk_cast (pc' := 5) (S' := [lk_vi (nI (k))]) rfl rfl rfl ?_
  refine lk_istore_n (L' := [(0, lk_vr 1 0), (1, lk_vi (nI (b))), (2, lk_vi 1), (3, lk_vi (nI (k)))]) dX9_boatGoes_5 rfl (by decide +kernel) rfl ?_
  refine lk_aload_n dX9_boatGoes_6 rfl rfl ?_
  refine lk_iload_n dX9_boatGoes_7 rfl rfl ?_
  refine lk_callV (o := 1) (as := [lk_vi (nI (b))]) (S := []) dX9_boatGoes_8 rfl vX9_isUp rfl lX9_148 rfl rfl (Nat.le_of_ble_eq_true rfl) (tX9_isUp_1 l X (d + 3) σ τ (b := (b)) (V := V) (T := T) (hb := hb) (hu := hu)) ?_
  refine lk_k3 ?_
  refine lk_cast (pc' := 11) (S' := [lk_vi 1]) rfl rfl rfl ?_
  refine lk_istore (L' := [(0, lk_vr 1 0), (1, lk_vi (nI (b))), (2, lk_vi 1), (3, lk_vi (nI (k))), (4, lk_vi 1)]) dX9_boatGoes_11 (by decide +kernel) rfl ?_
  refine lk_iload_n dX9_boatGoes_13 rfl rfl ?_
  refine lk_if_eq (tgt := 39) dX9_boatGoes_14 (by decide) (fun hh1 => absurd hh1 (by decide)) (fun hh1 => ?_)
  refine lk_aload_n dX9_boatGoes_17 rfl rfl ?_
  refine lk_iload_n dX9_boatGoes_18 rfl rfl ?_
  refine lk_iload dX9_boatGoes_19 rfl ?_
  refine lk_aload_n dX9_boatGoes_21 rfl rfl ?_
  refine lk_getR (f := 0) dX9_boatGoes_22 rfl fX9_9 (by decide) (by decide) ?_
  refine lk_bipush (v := 66) dX9_boatGoes_25 (by decide) ?_
  refine lk_iload_n dX9_boatGoes_27 rfl rfl ?_
  refine lk_iaddN (a := 66) (b := b) dX9_boatGoes_28 ?_
  refine lk_ialdN (f := 0) (i := 66 + b) dX9_boatGoes_29 rfl (by decide) rfl (by omega) (by decide) ?_
  refine lk_eqtop (y := (z)) ((lk_rB (by omega)).trans hs) ?_
  refine lk_callV (o := 1) (as := [lk_vi (nI (k)), lk_vi 1, lk_vi (z)]) (S := []) dX9_boatGoes_30 rfl vX9_goesTruly rfl lX9_154 rfl rfl (Nat.le_of_ble_eq_true rfl) (tX9_truly_up_no l X d σ τ (k := (k)) (z := (z)) (V := V) (T := T) (n := n) (hV := hV) (hr := hr) (hk := hk) (q := q) (h := h)) ?_
  refine lk_k5 (fun s1 => ?_)
  refine lk_cast (pc' := 33) (S' := [lk_vi 0]) rfl rfl rfl ?_
  refine lk_sg (σ' := (lk_ms (lk_cau (lk_up (lk_bar σ q) 1 6 0 s1) (k) q) V T)) rfl ?_
  refine lk_if_ne (tgt := 60) dX9_boatGoes_33 (by decide) (fun hh2 => absurd hh2 (by decide)) (fun hh2 => ?_)
  refine lk_goto (tgt := 58) dX9_boatGoes_36 (by decide) ?_
  refine lk_iconst (v := 0) dX9_boatGoes_58 (by decide) ?_
  refine lk_iret .boolean dX9_boatGoes_59 rfl rfl ?_
  rw [hQ]
  exact ⟨rfl, rfl, s1, rfl⟩

set_option maxHeartbeats 1000000 in
set_option maxRecDepth 100000 in
theorem tX9_boatGoes_up0_ok (l : Launch) (X : lk_G) (d : Nat) (σ : lk_N) (τ : lk_T) (V T : lk_O) (b : Nat) (hb : b < 12) (n k : Nat) (z : Int32) (hV : lk_cok V n) (hr : lk_rok V) (hk : k < n) (hu : σ 1 0 (90 + b) = 1) (hre : σ 1 0 (102 + b) = nI k) (hs : σ 1 0 (66 + b) = z) (W : lk_O) (h : lk_pas V k true z = .inl W) : lk_Mt l X mX9_boatGoes (d + 4) [lk_vr 1 0, lk_vi (nI (b)), lk_vi 0] (lk_ms σ V T) τ (fun rr σ1 τ1 => rr = some (lk_vi 1) ∧ σ1 = (lk_ms (lk_up (lk_up σ 1 6 0 (V 6 (k + 1) - W 6 (k + 1))) 1 0 (102 + b) (nI (k + 1))) W T) ∧ τ1 = τ) := by
  refine lk_met (L := [(0, lk_vr 1 0), (1, lk_vi (nI (b))), (2, lk_vi 0)]) (by decide +kernel) (Nat.le_of_ble_eq_true rfl) rfl ?_
  obtain ⟨Q, hQ⟩ : ∃ Q : lk_Q, Q = fun rr σ1 τ1 => rr = some (lk_vi 1) ∧ σ1 = (lk_ms (lk_up (lk_up σ 1 6 0 (V 6 (k + 1) - W 6 (k + 1))) 1 0 (102 + b) (nI (k + 1))) W T) ∧ τ1 = τ := ⟨_, rfl⟩
  rw [← hQ]
  refine lk_aload_n dX9_boatGoes_0 rfl rfl ?_
  refine lk_iload_n dX9_boatGoes_1 rfl rfl ?_
  refine lk_callV (o := 1) (as := [lk_vi (nI (b))]) (S := []) dX9_boatGoes_2 rfl vX9_lockOf rfl lX9_151 rfl rfl (Nat.le_of_ble_eq_true rfl) (tX9_lockOf_up l X (d + 1) σ τ (b := (b)) (V := V) (T := T) (hb := hb) (n := n) (k := k) (hV := hV) (hk := hk) (hu := hu) (hr := hre)) ?_
  refine lk_k3 ?_
  refine lk_cast (pc' := 5) (S' := [lk_vi (nI (k))]) rfl rfl rfl ?_
  refine lk_istore_n (L' := [(0, lk_vr 1 0), (1, lk_vi (nI (b))), (2, lk_vi 0), (3, lk_vi (nI (k)))]) dX9_boatGoes_5 rfl (by decide +kernel) rfl ?_
  refine lk_aload_n dX9_boatGoes_6 rfl rfl ?_
  refine lk_iload_n dX9_boatGoes_7 rfl rfl ?_
  refine lk_callV (o := 1) (as := [lk_vi (nI (b))]) (S := []) dX9_boatGoes_8 rfl vX9_isUp rfl lX9_148 rfl rfl (Nat.le_of_ble_eq_true rfl) (tX9_isUp_1 l X (d + 3) σ τ (b := (b)) (V := V) (T := T) (hb := hb) (hu := hu)) ?_
  refine lk_k3 ?_
  refine lk_cast (pc' := 11) (S' := [lk_vi 1]) rfl rfl rfl ?_
  refine lk_istore (L' := [(0, lk_vr 1 0), (1, lk_vi (nI (b))), (2, lk_vi 0), (3, lk_vi (nI (k))), (4, lk_vi 1)]) dX9_boatGoes_11 (by decide +kernel) rfl ?_
  refine lk_iload_n dX9_boatGoes_13 rfl rfl ?_
  refine lk_if_eq (tgt := 39) dX9_boatGoes_14 (by decide) (fun hh1 => ?_) (fun hh1 => absurd hh1 (by decide))
  refine lk_aload_n dX9_boatGoes_39 rfl rfl ?_
  refine lk_iload_n dX9_boatGoes_40 rfl rfl ?_
  refine lk_iload dX9_boatGoes_41 rfl ?_
  refine lk_aload_n dX9_boatGoes_43 rfl rfl ?_
  refine lk_getR (f := 0) dX9_boatGoes_44 rfl fX9_9 (by decide) (by decide) ?_
  refine lk_bipush (v := 66) dX9_boatGoes_47 (by decide) ?_
  refine lk_iload_n dX9_boatGoes_49 rfl rfl ?_
  refine lk_iaddN (a := 66) (b := b) dX9_boatGoes_50 ?_
  refine lk_ialdN (f := 0) (i := 66 + b) dX9_boatGoes_51 rfl (by decide) rfl (by omega) (by decide) ?_
  refine lk_eqtop (y := (z)) ((lk_rB (by omega)).trans hs) ?_
  refine lk_callV (o := 1) (as := [lk_vi (nI (k)), lk_vi 1, lk_vi (z)]) (S := []) dX9_boatGoes_52 rfl vX9_goes rfl lX9_140 rfl rfl (Nat.le_of_ble_eq_true rfl) (tX9_goes_up_ok l X (d + 1) σ τ (k := (k)) (z := (z)) (V := V) (T := T) (n := n) (hV := hV) (hr := hr) (hk := hk) (W := W) (h := h)) ?_
  refine lk_k3 ?_
  refine lk_cast (pc' := 55) (S' := [lk_vi 1]) rfl rfl rfl ?_
  refine lk_if_ne (tgt := 60) dX9_boatGoes_55 (by decide) (fun hh2 => ?_) (fun hh2 => absurd hh2 (by decide))
  refine lk_aload_n dX9_boatGoes_60 rfl rfl ?_
  refine lk_getR (f := 0) dX9_boatGoes_61 rfl fX9_9 (by decide) (by decide) ?_
  refine lk_bipush (v := 102) dX9_boatGoes_64 (by decide) ?_
  refine lk_iload_n dX9_boatGoes_66 rfl rfl ?_
  refine lk_iaddN (a := 102) (b := b) dX9_boatGoes_67 ?_
  refine lk_iload dX9_boatGoes_68 rfl ?_
  refine lk_if_eq (tgt := 79) dX9_boatGoes_70 (by decide) (fun hh3 => absurd hh3 (by decide)) (fun hh3 => ?_)
  refine lk_iload_n dX9_boatGoes_73 rfl rfl ?_
  refine lk_iconst (v := 1) dX9_boatGoes_74 (by decide) ?_
  refine lk_iaddN (a := k) (b := 1) dX9_boatGoes_75 ?_
  refine lk_goto (tgt := 80) dX9_boatGoes_76 (by decide) ?_
  refine lk_iastN (f := 0) (i := 102 + b) (v := (nI (k + 1))) dX9_boatGoes_80 rfl (by decide) rfl (by omega) (by decide) ?_
  refine lk_sg (σ' := (lk_ms (lk_up (lk_up σ 1 6 0 (V 6 ((k) + 1) - W 6 ((k) + 1))) 1 0 (102 + b) (nI (k + 1))) W T)) (lk_wB (by omega)) ?_
  refine lk_iconst (v := 1) dX9_boatGoes_81 (by decide) ?_
  refine lk_iret .boolean dX9_boatGoes_82 rfl rfl ?_
  rw [hQ]
  exact ⟨by first | rfl | (simp [*]; done) | (simp_all; done) | grind, by first | rfl | (simp [*]; done), rfl⟩

set_option maxHeartbeats 1000000 in
set_option maxRecDepth 100000 in
theorem tX9_boatGoes_up0_no (l : Launch) (X : lk_G) (d : Nat) (σ : lk_N) (τ : lk_T) (V T : lk_O) (b : Nat) (hb : b < 12) (n k : Nat) (z : Int32) (hV : lk_cok V n) (hr : lk_rok V) (hk : k < n) (hu : σ 1 0 (90 + b) = 1) (hre : σ 1 0 (102 + b) = nI k) (hs : σ 1 0 (66 + b) = z) (q : Int32 × Nat × Int32) (h : lk_pas V k true z = .inr q) : lk_Mt l X mX9_boatGoes (d + 4) [lk_vr 1 0, lk_vi (nI (b)), lk_vi 0] (lk_ms σ V T) τ (fun rr σ1 τ1 => rr = some (lk_vi 0) ∧ τ1 = τ ∧ ∃ s : Int32, σ1 = (lk_ms (lk_up (lk_bar σ q) 1 6 0 s) V T)) := by
  refine lk_met (L := [(0, lk_vr 1 0), (1, lk_vi (nI (b))), (2, lk_vi 0)]) (by decide +kernel) (Nat.le_of_ble_eq_true rfl) rfl ?_
  obtain ⟨Q, hQ⟩ : ∃ Q : lk_Q, Q = fun rr σ1 τ1 => rr = some (lk_vi 0) ∧ τ1 = τ ∧ ∃ s : Int32, σ1 = (lk_ms (lk_up (lk_bar σ q) 1 6 0 s) V T) := ⟨_, rfl⟩
  rw [← hQ]
  refine lk_aload_n dX9_boatGoes_0 rfl rfl ?_
  refine lk_iload_n dX9_boatGoes_1 rfl rfl ?_
  refine lk_callV (o := 1) (as := [lk_vi (nI (b))]) (S := []) dX9_boatGoes_2 rfl vX9_lockOf rfl lX9_151 rfl rfl (Nat.le_of_ble_eq_true rfl) (tX9_lockOf_up l X (d + 1) σ τ (b := (b)) (V := V) (T := T) (hb := hb) (n := n) (k := k) (hV := hV) (hk := hk) (hu := hu) (hr := hre)) ?_
  refine lk_k3 ?_
  refine lk_cast (pc' := 5) (S' := [lk_vi (nI (k))]) rfl rfl rfl ?_
  refine lk_istore_n (L' := [(0, lk_vr 1 0), (1, lk_vi (nI (b))), (2, lk_vi 0), (3, lk_vi (nI (k)))]) dX9_boatGoes_5 rfl (by decide +kernel) rfl ?_
  refine lk_aload_n dX9_boatGoes_6 rfl rfl ?_
  refine lk_iload_n dX9_boatGoes_7 rfl rfl ?_
  refine lk_callV (o := 1) (as := [lk_vi (nI (b))]) (S := []) dX9_boatGoes_8 rfl vX9_isUp rfl lX9_148 rfl rfl (Nat.le_of_ble_eq_true rfl) (tX9_isUp_1 l X (d + 3) σ τ (b := (b)) (V := V) (T := T) (hb := hb) (hu := hu)) ?_
  refine lk_k3 ?_
  refine lk_cast (pc' := 11) (S' := [lk_vi 1]) rfl rfl rfl ?_
  refine lk_istore (L' := [(0, lk_vr 1 0), (1, lk_vi (nI (b))), (2, lk_vi 0), (3, lk_vi (nI (k))), (4, lk_vi 1)]) dX9_boatGoes_11 (by decide +kernel) rfl ?_
  refine lk_iload_n dX9_boatGoes_13 rfl rfl ?_
  refine lk_if_eq (tgt := 39) dX9_boatGoes_14 (by decide) (fun hh1 => ?_) (fun hh1 => absurd hh1 (by decide))
  refine lk_aload_n dX9_boatGoes_39 rfl rfl ?_
  refine lk_iload_n dX9_boatGoes_40 rfl rfl ?_
  refine lk_iload dX9_boatGoes_41 rfl ?_
  refine lk_aload_n dX9_boatGoes_43 rfl rfl ?_
  refine lk_getR (f := 0) dX9_boatGoes_44 rfl fX9_9 (by decide) (by decide) ?_
  refine lk_bipush (v := 66) dX9_boatGoes_47 (by decide) ?_
  refine lk_iload_n dX9_boatGoes_49 rfl rfl ?_
  refine lk_iaddN (a := 66) (b := b) dX9_boatGoes_50 ?_
  refine lk_ialdN (f := 0) (i := 66 + b) dX9_boatGoes_51 rfl (by decide) rfl (by omega) (by decide) ?_
  refine lk_eqtop (y := (z)) ((lk_rB (by omega)).trans hs) ?_
  refine lk_callV (o := 1) (as := [lk_vi (nI (k)), lk_vi 1, lk_vi (z)]) (S := []) dX9_boatGoes_52 rfl vX9_goes rfl lX9_140 rfl rfl (Nat.le_of_ble_eq_true rfl) (tX9_goes_up_no l X (d + 1) σ τ (k := (k)) (z := (z)) (V := V) (T := T) (n := n) (hV := hV) (hr := hr) (hk := hk) (q := q) (h := h)) ?_
  refine lk_k5 (fun s1 => ?_)
  refine lk_cast (pc' := 55) (S' := [lk_vi 0]) rfl rfl rfl ?_
  refine lk_sg (σ' := (lk_ms (lk_up (lk_bar σ q) 1 6 0 s1) V T)) rfl ?_
  refine lk_if_ne (tgt := 60) dX9_boatGoes_55 (by decide) (fun hh2 => absurd hh2 (by decide)) (fun hh2 => ?_)
  refine lk_iconst (v := 0) dX9_boatGoes_58 (by decide) ?_
  refine lk_iret .boolean dX9_boatGoes_59 rfl rfl ?_
  rw [hQ]
  exact ⟨rfl, rfl, s1, rfl⟩

set_option maxHeartbeats 1000000 in
set_option maxRecDepth 100000 in
theorem tX9_boatGoes_dn1_ok (l : Launch) (X : lk_G) (d : Nat) (σ : lk_N) (τ : lk_T) (V T : lk_O) (b : Nat) (hb : b < 12) (n k : Nat) (z : Int32) (hV : lk_cok V n) (hr : lk_rok V) (hk : k < n) (hu : σ 1 0 (90 + b) = 0) (hre : σ 1 0 (102 + b) = nI (k + 1)) (hs : σ 1 0 (66 + b) = z) (hz : 0 ≤ z.toInt) (hz9 : z.toInt ≤ 9) (W : lk_O) (h : lk_pas V k false z = .inl W) : lk_Mt l X mX9_boatGoes (d + 4) [lk_vr 1 0, lk_vi (nI (b)), lk_vi 1] (lk_ms σ V T) τ (fun rr σ1 τ1 => rr = some (lk_vi 1) ∧ σ1 = (lk_ms (lk_up (lk_up σ 1 6 0 (V 6 (k + 1) - W 6 (k + 1))) 1 0 (102 + b) (nI (k))) W (lk_tad T (V 6 (k + 1) - W 6 (k + 1)))) ∧ τ1 = τ) := by
  refine lk_met (L := [(0, lk_vr 1 0), (1, lk_vi (nI (b))), (2, lk_vi 1)]) (by decide +kernel) (Nat.le_of_ble_eq_true rfl) rfl ?_
  obtain ⟨Q, hQ⟩ : ∃ Q : lk_Q, Q = fun rr σ1 τ1 => rr = some (lk_vi 1) ∧ σ1 = (lk_ms (lk_up (lk_up σ 1 6 0 (V 6 (k + 1) - W 6 (k + 1))) 1 0 (102 + b) (nI (k))) W (lk_tad T (V 6 (k + 1) - W 6 (k + 1)))) ∧ τ1 = τ := ⟨_, rfl⟩
  rw [← hQ]
  refine lk_aload_n dX9_boatGoes_0 rfl rfl ?_
  refine lk_iload_n dX9_boatGoes_1 rfl rfl ?_
  refine lk_callV (o := 1) (as := [lk_vi (nI (b))]) (S := []) dX9_boatGoes_2 rfl vX9_lockOf rfl lX9_151 rfl rfl (Nat.le_of_ble_eq_true rfl) (tX9_lockOf_dn l X (d + 1) σ τ (b := (b)) (V := V) (T := T) (hb := hb) (n := n) (k := k) (hV := hV) (hk := hk) (hu := hu) (hr := hre)) ?_
  refine lk_k3 ?_
  refine lk_cast (pc' := 5) (S' := [lk_vi (nI (k))]) rfl rfl rfl ?_
  refine lk_istore_n (L' := [(0, lk_vr 1 0), (1, lk_vi (nI (b))), (2, lk_vi 1), (3, lk_vi (nI (k)))]) dX9_boatGoes_5 rfl (by decide +kernel) rfl ?_
  refine lk_aload_n dX9_boatGoes_6 rfl rfl ?_
  refine lk_iload_n dX9_boatGoes_7 rfl rfl ?_
  refine lk_callV (o := 1) (as := [lk_vi (nI (b))]) (S := []) dX9_boatGoes_8 rfl vX9_isUp rfl lX9_148 rfl rfl (Nat.le_of_ble_eq_true rfl) (tX9_isUp_0 l X (d + 3) σ τ (b := (b)) (V := V) (T := T) (hb := hb) (hu := hu)) ?_
  refine lk_k3 ?_
  refine lk_cast (pc' := 11) (S' := [lk_vi 0]) rfl rfl rfl ?_
  refine lk_istore (L' := [(0, lk_vr 1 0), (1, lk_vi (nI (b))), (2, lk_vi 1), (3, lk_vi (nI (k))), (4, lk_vi 0)]) dX9_boatGoes_11 (by decide +kernel) rfl ?_
  refine lk_iload_n dX9_boatGoes_13 rfl rfl ?_
  refine lk_if_eq (tgt := 39) dX9_boatGoes_14 (by decide) (fun hh1 => absurd hh1 (by decide)) (fun hh1 => ?_)
  refine lk_aload_n dX9_boatGoes_17 rfl rfl ?_
  refine lk_iload_n dX9_boatGoes_18 rfl rfl ?_
  refine lk_iload dX9_boatGoes_19 rfl ?_
  refine lk_aload_n dX9_boatGoes_21 rfl rfl ?_
  refine lk_getR (f := 0) dX9_boatGoes_22 rfl fX9_9 (by decide) (by decide) ?_
  refine lk_bipush (v := 66) dX9_boatGoes_25 (by decide) ?_
  refine lk_iload_n dX9_boatGoes_27 rfl rfl ?_
  refine lk_iaddN (a := 66) (b := b) dX9_boatGoes_28 ?_
  refine lk_ialdN (f := 0) (i := 66 + b) dX9_boatGoes_29 rfl (by decide) rfl (by omega) (by decide) ?_
  refine lk_eqtop (y := (z)) ((lk_rB (by omega)).trans hs) ?_
  refine lk_callV (o := 1) (as := [lk_vi (nI (k)), lk_vi 0, lk_vi (z)]) (S := []) dX9_boatGoes_30 rfl vX9_goesTruly rfl lX9_154 rfl rfl (Nat.le_of_ble_eq_true rfl) (tX9_truly_dn_ok l X d σ τ (k := (k)) (z := (z)) (V := V) (T := T) (n := n) (hV := hV) (hr := hr) (hk := hk) (hz := hz) (hz9 := hz9) (W := W) (h := h)) ?_
  refine lk_k3 ?_
  refine lk_cast (pc' := 33) (S' := [lk_vi 1]) rfl rfl rfl ?_
  refine lk_if_ne (tgt := 60) dX9_boatGoes_33 (by decide) (fun hh2 => ?_) (fun hh2 => absurd hh2 (by decide))
  refine lk_aload_n dX9_boatGoes_60 rfl rfl ?_
  refine lk_getR (f := 0) dX9_boatGoes_61 rfl fX9_9 (by decide) (by decide) ?_
  refine lk_bipush (v := 102) dX9_boatGoes_64 (by decide) ?_
  refine lk_iload_n dX9_boatGoes_66 rfl rfl ?_
  refine lk_iaddN (a := 102) (b := b) dX9_boatGoes_67 ?_
  refine lk_iload dX9_boatGoes_68 rfl ?_
  refine lk_if_eq (tgt := 79) dX9_boatGoes_70 (by decide) (fun hh3 => ?_) (fun hh3 => absurd hh3 (by decide))
  refine lk_iload_n dX9_boatGoes_79 rfl rfl ?_
  refine lk_iastN (f := 0) (i := 102 + b) (v := (nI (k))) dX9_boatGoes_80 rfl (by decide) rfl (by omega) (by decide) ?_
  refine lk_sg (σ' := (lk_ms (lk_up (lk_up σ 1 6 0 (V 6 ((k) + 1) - W 6 ((k) + 1))) 1 0 (102 + b) (nI (k))) W (lk_tad T (V 6 ((k) + 1) - W 6 ((k) + 1))))) (lk_wB (by omega)) ?_
  refine lk_iconst (v := 1) dX9_boatGoes_81 (by decide) ?_
  refine lk_iret .boolean dX9_boatGoes_82 rfl rfl ?_
  rw [hQ]
  exact ⟨by first | rfl | (simp [*]; done) | (simp_all; done) | grind, by first | rfl | (simp [*]; done), rfl⟩

set_option maxHeartbeats 1000000 in
set_option maxRecDepth 100000 in
theorem tX9_boatGoes_dn1_no (l : Launch) (X : lk_G) (d : Nat) (σ : lk_N) (τ : lk_T) (V T : lk_O) (b : Nat) (hb : b < 12) (n k : Nat) (z : Int32) (hV : lk_cok V n) (hr : lk_rok V) (hk : k < n) (hu : σ 1 0 (90 + b) = 0) (hre : σ 1 0 (102 + b) = nI (k + 1)) (hs : σ 1 0 (66 + b) = z) (hz : 0 ≤ z.toInt) (hz9 : z.toInt ≤ 9) (q : Int32 × Nat × Int32) (h : lk_pas V k false z = .inr q) : lk_Mt l X mX9_boatGoes (d + 4) [lk_vr 1 0, lk_vi (nI (b)), lk_vi 1] (lk_ms σ V T) τ (fun rr σ1 τ1 => rr = some (lk_vi 0) ∧ τ1 = τ ∧ ∃ s : Int32, σ1 = (lk_ms (lk_cau (lk_up (lk_bar σ q) 1 6 0 s) k q) V T)) := by
  refine lk_met (L := [(0, lk_vr 1 0), (1, lk_vi (nI (b))), (2, lk_vi 1)]) (by decide +kernel) (Nat.le_of_ble_eq_true rfl) rfl ?_
  obtain ⟨Q, hQ⟩ : ∃ Q : lk_Q, Q = fun rr σ1 τ1 => rr = some (lk_vi 0) ∧ τ1 = τ ∧ ∃ s : Int32, σ1 = (lk_ms (lk_cau (lk_up (lk_bar σ q) 1 6 0 s) k q) V T) := ⟨_, rfl⟩
  rw [← hQ]
  refine lk_aload_n dX9_boatGoes_0 rfl rfl ?_
  refine lk_iload_n dX9_boatGoes_1 rfl rfl ?_
  refine lk_callV (o := 1) (as := [lk_vi (nI (b))]) (S := []) dX9_boatGoes_2 rfl vX9_lockOf rfl lX9_151 rfl rfl (Nat.le_of_ble_eq_true rfl) (tX9_lockOf_dn l X (d + 1) σ τ (b := (b)) (V := V) (T := T) (hb := hb) (n := n) (k := k) (hV := hV) (hk := hk) (hu := hu) (hr := hre)) ?_
  refine lk_k3 ?_
  refine lk_cast (pc' := 5) (S' := [lk_vi (nI (k))]) rfl rfl rfl ?_
  refine lk_istore_n (L' := [(0, lk_vr 1 0), (1, lk_vi (nI (b))), (2, lk_vi 1), (3, lk_vi (nI (k)))]) dX9_boatGoes_5 rfl (by decide +kernel) rfl ?_
  refine lk_aload_n dX9_boatGoes_6 rfl rfl ?_
  refine lk_iload_n dX9_boatGoes_7 rfl rfl ?_
  refine lk_callV (o := 1) (as := [lk_vi (nI (b))]) (S := []) dX9_boatGoes_8 rfl vX9_isUp rfl lX9_148 rfl rfl (Nat.le_of_ble_eq_true rfl) (tX9_isUp_0 l X (d + 3) σ τ (b := (b)) (V := V) (T := T) (hb := hb) (hu := hu)) ?_
  refine lk_k3 ?_
  refine lk_cast (pc' := 11) (S' := [lk_vi 0]) rfl rfl rfl ?_
  refine lk_istore (L' := [(0, lk_vr 1 0), (1, lk_vi (nI (b))), (2, lk_vi 1), (3, lk_vi (nI (k))), (4, lk_vi 0)]) dX9_boatGoes_11 (by decide +kernel) rfl ?_
  refine lk_iload_n dX9_boatGoes_13 rfl rfl ?_
  refine lk_if_eq (tgt := 39) dX9_boatGoes_14 (by decide) (fun hh1 => absurd hh1 (by decide)) (fun hh1 => ?_)
  refine lk_aload_n dX9_boatGoes_17 rfl rfl ?_
  refine lk_iload_n dX9_boatGoes_18 rfl rfl ?_
  refine lk_iload dX9_boatGoes_19 rfl ?_
  refine lk_aload_n dX9_boatGoes_21 rfl rfl ?_
  refine lk_getR (f := 0) dX9_boatGoes_22 rfl fX9_9 (by decide) (by decide) ?_
  refine lk_bipush (v := 66) dX9_boatGoes_25 (by decide) ?_
  refine lk_iload_n dX9_boatGoes_27 rfl rfl ?_
  refine lk_iaddN (a := 66) (b := b) dX9_boatGoes_28 ?_
  refine lk_ialdN (f := 0) (i := 66 + b) dX9_boatGoes_29 rfl (by decide) rfl (by omega) (by decide) ?_
  refine lk_eqtop (y := (z)) ((lk_rB (by omega)).trans hs) ?_
  refine lk_callV (o := 1) (as := [lk_vi (nI (k)), lk_vi 0, lk_vi (z)]) (S := []) dX9_boatGoes_30 rfl vX9_goesTruly rfl lX9_154 rfl rfl (Nat.le_of_ble_eq_true rfl) (tX9_truly_dn_no l X d σ τ (k := (k)) (z := (z)) (V := V) (T := T) (n := n) (hV := hV) (hr := hr) (hk := hk) (q := q) (h := h)) ?_
  refine lk_k5 (fun s1 => ?_)
  refine lk_cast (pc' := 33) (S' := [lk_vi 0]) rfl rfl rfl ?_
  refine lk_sg (σ' := (lk_ms (lk_cau (lk_up (lk_bar σ q) 1 6 0 s1) (k) q) V T)) rfl ?_
  refine lk_if_ne (tgt := 60) dX9_boatGoes_33 (by decide) (fun hh2 => absurd hh2 (by decide)) (fun hh2 => ?_)
  refine lk_goto (tgt := 58) dX9_boatGoes_36 (by decide) ?_
  refine lk_iconst (v := 0) dX9_boatGoes_58 (by decide) ?_
  refine lk_iret .boolean dX9_boatGoes_59 rfl rfl ?_
  rw [hQ]
  exact ⟨rfl, rfl, s1, rfl⟩

set_option maxHeartbeats 1000000 in
set_option maxRecDepth 100000 in
theorem tX9_boatGoes_dn0_ok (l : Launch) (X : lk_G) (d : Nat) (σ : lk_N) (τ : lk_T) (V T : lk_O) (b : Nat) (hb : b < 12) (n k : Nat) (z : Int32) (hV : lk_cok V n) (hr : lk_rok V) (hk : k < n) (hu : σ 1 0 (90 + b) = 0) (hre : σ 1 0 (102 + b) = nI (k + 1)) (hs : σ 1 0 (66 + b) = z) (W : lk_O) (h : lk_pas V k false z = .inl W) : lk_Mt l X mX9_boatGoes (d + 4) [lk_vr 1 0, lk_vi (nI (b)), lk_vi 0] (lk_ms σ V T) τ (fun rr σ1 τ1 => rr = some (lk_vi 1) ∧ σ1 = (lk_ms (lk_up (lk_up σ 1 6 0 (V 6 (k + 1) - W 6 (k + 1))) 1 0 (102 + b) (nI (k))) W T) ∧ τ1 = τ) := by
  refine lk_met (L := [(0, lk_vr 1 0), (1, lk_vi (nI (b))), (2, lk_vi 0)]) (by decide +kernel) (Nat.le_of_ble_eq_true rfl) rfl ?_
  obtain ⟨Q, hQ⟩ : ∃ Q : lk_Q, Q = fun rr σ1 τ1 => rr = some (lk_vi 1) ∧ σ1 = (lk_ms (lk_up (lk_up σ 1 6 0 (V 6 (k + 1) - W 6 (k + 1))) 1 0 (102 + b) (nI (k))) W T) ∧ τ1 = τ := ⟨_, rfl⟩
  rw [← hQ]
  refine lk_aload_n dX9_boatGoes_0 rfl rfl ?_
  refine lk_iload_n dX9_boatGoes_1 rfl rfl ?_
  refine lk_callV (o := 1) (as := [lk_vi (nI (b))]) (S := []) dX9_boatGoes_2 rfl vX9_lockOf rfl lX9_151 rfl rfl (Nat.le_of_ble_eq_true rfl) (tX9_lockOf_dn l X (d + 1) σ τ (b := (b)) (V := V) (T := T) (hb := hb) (n := n) (k := k) (hV := hV) (hk := hk) (hu := hu) (hr := hre)) ?_
  refine lk_k3 ?_
  refine lk_cast (pc' := 5) (S' := [lk_vi (nI (k))]) rfl rfl rfl ?_
  refine lk_istore_n (L' := [(0, lk_vr 1 0), (1, lk_vi (nI (b))), (2, lk_vi 0), (3, lk_vi (nI (k)))]) dX9_boatGoes_5 rfl (by decide +kernel) rfl ?_
  refine lk_aload_n dX9_boatGoes_6 rfl rfl ?_
  refine lk_iload_n dX9_boatGoes_7 rfl rfl ?_
  refine lk_callV (o := 1) (as := [lk_vi (nI (b))]) (S := []) dX9_boatGoes_8 rfl vX9_isUp rfl lX9_148 rfl rfl (Nat.le_of_ble_eq_true rfl) (tX9_isUp_0 l X (d + 3) σ τ (b := (b)) (V := V) (T := T) (hb := hb) (hu := hu)) ?_
  refine lk_k3 ?_
  refine lk_cast (pc' := 11) (S' := [lk_vi 0]) rfl rfl rfl ?_
  refine lk_istore (L' := [(0, lk_vr 1 0), (1, lk_vi (nI (b))), (2, lk_vi 0), (3, lk_vi (nI (k))), (4, lk_vi 0)]) dX9_boatGoes_11 (by decide +kernel) rfl ?_
  refine lk_iload_n dX9_boatGoes_13 rfl rfl ?_
  refine lk_if_eq (tgt := 39) dX9_boatGoes_14 (by decide) (fun hh1 => ?_) (fun hh1 => absurd hh1 (by decide))
  refine lk_aload_n dX9_boatGoes_39 rfl rfl ?_
  refine lk_iload_n dX9_boatGoes_40 rfl rfl ?_
  refine lk_iload dX9_boatGoes_41 rfl ?_
  refine lk_aload_n dX9_boatGoes_43 rfl rfl ?_
  refine lk_getR (f := 0) dX9_boatGoes_44 rfl fX9_9 (by decide) (by decide) ?_
  refine lk_bipush (v := 66) dX9_boatGoes_47 (by decide) ?_
  refine lk_iload_n dX9_boatGoes_49 rfl rfl ?_
  refine lk_iaddN (a := 66) (b := b) dX9_boatGoes_50 ?_
  refine lk_ialdN (f := 0) (i := 66 + b) dX9_boatGoes_51 rfl (by decide) rfl (by omega) (by decide) ?_
  refine lk_eqtop (y := (z)) ((lk_rB (by omega)).trans hs) ?_
  refine lk_callV (o := 1) (as := [lk_vi (nI (k)), lk_vi 0, lk_vi (z)]) (S := []) dX9_boatGoes_52 rfl vX9_goes rfl lX9_140 rfl rfl (Nat.le_of_ble_eq_true rfl) (tX9_goes_dn_ok l X (d + 1) σ τ (k := (k)) (z := (z)) (V := V) (T := T) (n := n) (hV := hV) (hr := hr) (hk := hk) (W := W) (h := h)) ?_
  refine lk_k3 ?_
  refine lk_cast (pc' := 55) (S' := [lk_vi 1]) rfl rfl rfl ?_
  refine lk_if_ne (tgt := 60) dX9_boatGoes_55 (by decide) (fun hh2 => ?_) (fun hh2 => absurd hh2 (by decide))
  refine lk_aload_n dX9_boatGoes_60 rfl rfl ?_
  refine lk_getR (f := 0) dX9_boatGoes_61 rfl fX9_9 (by decide) (by decide) ?_
  refine lk_bipush (v := 102) dX9_boatGoes_64 (by decide) ?_
  refine lk_iload_n dX9_boatGoes_66 rfl rfl ?_
  refine lk_iaddN (a := 102) (b := b) dX9_boatGoes_67 ?_
  refine lk_iload dX9_boatGoes_68 rfl ?_
  refine lk_if_eq (tgt := 79) dX9_boatGoes_70 (by decide) (fun hh3 => ?_) (fun hh3 => absurd hh3 (by decide))
  refine lk_iload_n dX9_boatGoes_79 rfl rfl ?_
  refine lk_iastN (f := 0) (i := 102 + b) (v := (nI (k))) dX9_boatGoes_80 rfl (by decide) rfl (by omega) (by decide) ?_
  refine lk_sg (σ' := (lk_ms (lk_up (lk_up σ 1 6 0 (V 6 ((k) + 1) - W 6 ((k) + 1))) 1 0 (102 + b) (nI (k))) W T)) (lk_wB (by omega)) ?_
  refine lk_iconst (v := 1) dX9_boatGoes_81 (by decide) ?_
  refine lk_iret .boolean dX9_boatGoes_82 rfl rfl ?_
  rw [hQ]
  exact ⟨by first | rfl | (simp [*]; done) | (simp_all; done) | grind, by first | rfl | (simp [*]; done), rfl⟩

set_option maxHeartbeats 1000000 in
set_option maxRecDepth 100000 in
theorem tX9_boatGoes_dn0_no (l : Launch) (X : lk_G) (d : Nat) (σ : lk_N) (τ : lk_T) (V T : lk_O) (b : Nat) (hb : b < 12) (n k : Nat) (z : Int32) (hV : lk_cok V n) (hr : lk_rok V) (hk : k < n) (hu : σ 1 0 (90 + b) = 0) (hre : σ 1 0 (102 + b) = nI (k + 1)) (hs : σ 1 0 (66 + b) = z) (q : Int32 × Nat × Int32) (h : lk_pas V k false z = .inr q) : lk_Mt l X mX9_boatGoes (d + 4) [lk_vr 1 0, lk_vi (nI (b)), lk_vi 0] (lk_ms σ V T) τ (fun rr σ1 τ1 => rr = some (lk_vi 0) ∧ τ1 = τ ∧ ∃ s : Int32, σ1 = (lk_ms (lk_up (lk_bar σ q) 1 6 0 s) V T)) := by
  refine lk_met (L := [(0, lk_vr 1 0), (1, lk_vi (nI (b))), (2, lk_vi 0)]) (by decide +kernel) (Nat.le_of_ble_eq_true rfl) rfl ?_
  obtain ⟨Q, hQ⟩ : ∃ Q : lk_Q, Q = fun rr σ1 τ1 => rr = some (lk_vi 0) ∧ τ1 = τ ∧ ∃ s : Int32, σ1 = (lk_ms (lk_up (lk_bar σ q) 1 6 0 s) V T) := ⟨_, rfl⟩
  rw [← hQ]
  refine lk_aload_n dX9_boatGoes_0 rfl rfl ?_
  refine lk_iload_n dX9_boatGoes_1 rfl rfl ?_
  refine lk_callV (o := 1) (as := [lk_vi (nI (b))]) (S := []) dX9_boatGoes_2 rfl vX9_lockOf rfl lX9_151 rfl rfl (Nat.le_of_ble_eq_true rfl) (tX9_lockOf_dn l X (d + 1) σ τ (b := (b)) (V := V) (T := T) (hb := hb) (n := n) (k := k) (hV := hV) (hk := hk) (hu := hu) (hr := hre)) ?_
  refine lk_k3 ?_
  refine lk_cast (pc' := 5) (S' := [lk_vi (nI (k))]) rfl rfl rfl ?_
  refine lk_istore_n (L' := [(0, lk_vr 1 0), (1, lk_vi (nI (b))), (2, lk_vi 0), (3, lk_vi (nI (k)))]) dX9_boatGoes_5 rfl (by decide +kernel) rfl ?_
  refine lk_aload_n dX9_boatGoes_6 rfl rfl ?_
  refine lk_iload_n dX9_boatGoes_7 rfl rfl ?_
  refine lk_callV (o := 1) (as := [lk_vi (nI (b))]) (S := []) dX9_boatGoes_8 rfl vX9_isUp rfl lX9_148 rfl rfl (Nat.le_of_ble_eq_true rfl) (tX9_isUp_0 l X (d + 3) σ τ (b := (b)) (V := V) (T := T) (hb := hb) (hu := hu)) ?_
  refine lk_k3 ?_
  refine lk_cast (pc' := 11) (S' := [lk_vi 0]) rfl rfl rfl ?_
  refine lk_istore (L' := [(0, lk_vr 1 0), (1, lk_vi (nI (b))), (2, lk_vi 0), (3, lk_vi (nI (k))), (4, lk_vi 0)]) dX9_boatGoes_11 (by decide +kernel) rfl ?_
  refine lk_iload_n dX9_boatGoes_13 rfl rfl ?_
  refine lk_if_eq (tgt := 39) dX9_boatGoes_14 (by decide) (fun hh1 => ?_) (fun hh1 => absurd hh1 (by decide))
  refine lk_aload_n dX9_boatGoes_39 rfl rfl ?_
  refine lk_iload_n dX9_boatGoes_40 rfl rfl ?_
  refine lk_iload dX9_boatGoes_41 rfl ?_
  refine lk_aload_n dX9_boatGoes_43 rfl rfl ?_
  refine lk_getR (f := 0) dX9_boatGoes_44 rfl fX9_9 (by decide) (by decide) ?_
  refine lk_bipush (v := 66) dX9_boatGoes_47 (by decide) ?_
  refine lk_iload_n dX9_boatGoes_49 rfl rfl ?_
  refine lk_iaddN (a := 66) (b := b) dX9_boatGoes_50 ?_
  refine lk_ialdN (f := 0) (i := 66 + b) dX9_boatGoes_51 rfl (by decide) rfl (by omega) (by decide) ?_
  refine lk_eqtop (y := (z)) ((lk_rB (by omega)).trans hs) ?_
  refine lk_callV (o := 1) (as := [lk_vi (nI (k)), lk_vi 0, lk_vi (z)]) (S := []) dX9_boatGoes_52 rfl vX9_goes rfl lX9_140 rfl rfl (Nat.le_of_ble_eq_true rfl) (tX9_goes_dn_no l X (d + 1) σ τ (k := (k)) (z := (z)) (V := V) (T := T) (n := n) (hV := hV) (hr := hr) (hk := hk) (q := q) (h := h)) ?_
  refine lk_k5 (fun s1 => ?_)
  refine lk_cast (pc' := 55) (S' := [lk_vi 0]) rfl rfl rfl ?_
  refine lk_sg (σ' := (lk_ms (lk_up (lk_bar σ q) 1 6 0 s1) V T)) rfl ?_
  refine lk_if_ne (tgt := 60) dX9_boatGoes_55 (by decide) (fun hh2 => absurd hh2 (by decide)) (fun hh2 => ?_)
  refine lk_iconst (v := 0) dX9_boatGoes_58 (by decide) ?_
  refine lk_iret .boolean dX9_boatGoes_59 rfl rfl ?_
  rw [hQ]
  exact ⟨rfl, rfl, s1, rfl⟩

set_option maxHeartbeats 1000000 in
set_option maxRecDepth 100000 in
theorem tX9_pass_out (l : Launch) (X : lk_G) (d : Nat) (σ : lk_N) (τ : lk_T) (V T : lk_O) (b : Int32) (h : ¬ ((0 : Int32) ≤ b ∧ b ≤ σ 1 0 114 - 1)) : lk_Mt l X mX9_pass (d + 5) [lk_vr 1 0, lk_vi (b)] (lk_ms σ V T) τ (fun rr σ1 τ1 => rr = some (lk_vi (-2000000)) ∧ σ1 = (lk_ms σ V T) ∧ τ1 = τ) := by
  refine lk_met (L := [(0, lk_vr 1 0), (1, lk_vi (b))]) (by decide +kernel) (Nat.le_of_ble_eq_true rfl) rfl ?_
  obtain ⟨Q, hQ⟩ : ∃ Q : lk_Q, Q = fun rr σ1 τ1 => rr = some (lk_vi (-2000000)) ∧ σ1 = (lk_ms σ V T) ∧ τ1 = τ := ⟨_, rfl⟩
  rw [← hQ]
  refine lk_aload_n dX9_pass_0 rfl rfl ?_
  refine lk_iload_n dX9_pass_1 rfl rfl ?_
  refine lk_callV (o := 1) (as := [lk_vi (b)]) (S := []) dX9_pass_2 rfl vX9_isBoat rfl lX9_112 rfl rfl (Nat.le_of_ble_eq_true rfl) (tX9_isBoat l X (d + 3) (lk_ms σ V T) τ (k := (b)) ) ?_
  refine lk_k3 ?_
  refine lk_cast (pc' := 5) (S' := [lk_vi (if (0 : Int32) ≤ (b) ∧ (b) ≤ (lk_ms σ V T) 1 0 114 - 1 then 1 else 0)]) rfl rfl rfl ?_
  refine lk_if_neB (tgt := 11) dX9_pass_5 (by decide) (fun hh1 => absurd hh1 (by rw [lk_rB (by decide)]; exact h)) (fun hh1 => ?_)
  refine lk_ldc dX9_pass_8 kX9_157 ?_
  refine lk_iret .int dX9_pass_10 rfl rfl ?_
  rw [hQ]
  exact ⟨by first | rfl | (simp [*]; done) | (simp_all; done) | grind, by first | rfl | (simp [*]; done), rfl⟩

set_option maxHeartbeats 1000000 in
set_option maxRecDepth 100000 in
theorem tX9_pass_none_up (l : Launch) (X : lk_G) (d : Nat) (σ : lk_N) (τ : lk_T) (V T : lk_O) (nf b : Nat) (hn : σ 1 0 114 = nI nf) (hb : b < nf) (hn12 : nf ≤ 12) (n : Nat) (hV : lk_cok V n) (hu : σ 1 0 (90 + b) = 1) (hre : σ 1 0 (102 + b) = nI n) : lk_Mt l X mX9_pass (d + 5) [lk_vr 1 0, lk_vi (nI (b))] (lk_ms σ V T) τ (fun rr σ1 τ1 => rr = some (lk_vi (-2000001)) ∧ σ1 = (lk_ms σ V T) ∧ τ1 = τ) := by
  refine lk_met (L := [(0, lk_vr 1 0), (1, lk_vi (nI (b)))]) (by decide +kernel) (Nat.le_of_ble_eq_true rfl) rfl ?_
  obtain ⟨Q, hQ⟩ : ∃ Q : lk_Q, Q = fun rr σ1 τ1 => rr = some (lk_vi (-2000001)) ∧ σ1 = (lk_ms σ V T) ∧ τ1 = τ := ⟨_, rfl⟩
  rw [← hQ]
  have hb12 : b < 12 := by omega
  refine lk_aload_n dX9_pass_0 rfl rfl ?_
  refine lk_iload_n dX9_pass_1 rfl rfl ?_
  refine lk_callV (o := 1) (as := [lk_vi (nI (b))]) (S := []) dX9_pass_2 rfl vX9_isBoat rfl lX9_112 rfl rfl (Nat.le_of_ble_eq_true rfl) (tX9_isBoat l X (d + 3) (lk_ms σ V T) τ (k := (nI (b))) ) ?_
  refine lk_k3 ?_
  refine lk_cast (pc' := 5) (S' := [lk_vi (if (0 : Int32) ≤ (nI (b)) ∧ (nI (b)) ≤ (lk_ms σ V T) 1 0 114 - 1 then 1 else 0)]) rfl rfl rfl ?_
  refine lk_if_neB (tgt := 11) dX9_pass_5 (by decide) (fun hh1 => ?_) (fun hh1 => absurd hh1 (fun q => q (by rw [lk_rB (by decide)]; exact lk_isb hn hb hn12)))
  refine lk_aload_n dX9_pass_11 rfl rfl ?_
  refine lk_iload_n dX9_pass_12 rfl rfl ?_
  refine lk_callV (o := 1) (as := [lk_vi (nI (b))]) (S := []) dX9_pass_13 rfl vX9_lockOf rfl lX9_151 rfl rfl (Nat.le_of_ble_eq_true rfl) (tX9_lockOf_up0 l X (d + 2) σ τ (b := (b)) (V := V) (T := T) (hb := hb12) (n := n) (hV := hV) (hu := hu) (hr := hre)) ?_
  refine lk_k3 ?_
  refine lk_cast (pc' := 16) (S' := [lk_vi (-2)]) rfl rfl rfl ?_
  refine lk_bipush (v := (-2)) dX9_pass_16 (by decide) ?_
  refine lk_icmp_ne (tgt := 24) dX9_pass_18 (by decide) (fun hh2 => absurd hh2 (by decide)) (fun hh2 => ?_)
  refine lk_ldc dX9_pass_21 kX9_158 ?_
  refine lk_iret .int dX9_pass_23 rfl rfl ?_
  rw [hQ]
  exact ⟨by first | rfl | (simp [*]; done) | (simp_all; done) | grind, by first | rfl | (simp [*]; done), rfl⟩

set_option maxHeartbeats 1000000 in
set_option maxRecDepth 100000 in
theorem tX9_pass_ok_up (l : Launch) (X : lk_G) (d : Nat) (σ : lk_N) (τ : lk_T) (V T : lk_O) (nf b : Nat) (hn : σ 1 0 114 = nI nf) (hb : b < nf) (hn12 : nf ≤ 12) (n k : Nat) (z : Int32) (hV : lk_cok V n) (hr : lk_rok V) (hk : k < n) (hu : σ 1 0 (90 + b) = 1) (hre : σ 1 0 (102 + b) = nI k) (hs : σ 1 0 (66 + b) = z) (hz : 0 ≤ z.toInt) (hz9 : z.toInt ≤ 9) (W : lk_O) (h : lk_pas V k true z = .inl W) : lk_Mt l X mX9_pass (d + 5) [lk_vr 1 0, lk_vi (nI (b))] (lk_ms σ V T) τ (fun rr σ1 τ1 => rr = some (lk_vi ((V 6 (k + 1) - W 6 (k + 1)))) ∧ σ1 = (lk_ms (lk_up (lk_up σ 1 6 0 (V 6 (k + 1) - W 6 (k + 1))) 1 0 (102 + b) (nI (k + 1))) W (lk_tad T (V 6 (k + 1) - W 6 (k + 1)))) ∧ τ1 = τ) := by
  refine lk_met (L := [(0, lk_vr 1 0), (1, lk_vi (nI (b)))]) (by decide +kernel) (Nat.le_of_ble_eq_true rfl) rfl ?_
  obtain ⟨Q, hQ⟩ : ∃ Q : lk_Q, Q = fun rr σ1 τ1 => rr = some (lk_vi ((V 6 (k + 1) - W 6 (k + 1)))) ∧ σ1 = (lk_ms (lk_up (lk_up σ 1 6 0 (V 6 (k + 1) - W 6 (k + 1))) 1 0 (102 + b) (nI (k + 1))) W (lk_tad T (V 6 (k + 1) - W 6 (k + 1)))) ∧ τ1 = τ := ⟨_, rfl⟩
  rw [← hQ]
  have hb12 : b < 12 := by omega
  refine lk_aload_n dX9_pass_0 rfl rfl ?_
  refine lk_iload_n dX9_pass_1 rfl rfl ?_
  refine lk_callV (o := 1) (as := [lk_vi (nI (b))]) (S := []) dX9_pass_2 rfl vX9_isBoat rfl lX9_112 rfl rfl (Nat.le_of_ble_eq_true rfl) (tX9_isBoat l X (d + 3) (lk_ms σ V T) τ (k := (nI (b))) ) ?_
  refine lk_k3 ?_
  refine lk_cast (pc' := 5) (S' := [lk_vi (if (0 : Int32) ≤ (nI (b)) ∧ (nI (b)) ≤ (lk_ms σ V T) 1 0 114 - 1 then 1 else 0)]) rfl rfl rfl ?_
  refine lk_if_neB (tgt := 11) dX9_pass_5 (by decide) (fun hh1 => ?_) (fun hh1 => absurd hh1 (fun q => q (by rw [lk_rB (by decide)]; exact lk_isb hn hb hn12)))
  refine lk_aload_n dX9_pass_11 rfl rfl ?_
  refine lk_iload_n dX9_pass_12 rfl rfl ?_
  refine lk_callV (o := 1) (as := [lk_vi (nI (b))]) (S := []) dX9_pass_13 rfl vX9_lockOf rfl lX9_151 rfl rfl (Nat.le_of_ble_eq_true rfl) (tX9_lockOf_up l X (d + 2) σ τ (b := (b)) (V := V) (T := T) (hb := hb12) (n := n) (k := k) (hV := hV) (hk := hk) (hu := hu) (hr := hre)) ?_
  refine lk_k3 ?_
  refine lk_cast (pc' := 16) (S' := [lk_vi (nI (k))]) rfl rfl rfl ?_
  refine lk_bipush (v := (-2)) dX9_pass_16 (by decide) ?_
  refine lk_icmp_ne (tgt := 24) dX9_pass_18 (by decide) (fun hh2 => ?_) (fun hh2 => absurd hh2 (lk_nim2 (by have := hV.2.2.1; omega)))
  refine lk_aload_n dX9_pass_24 rfl rfl ?_
  refine lk_iload_n dX9_pass_25 rfl rfl ?_
  refine lk_iconst (v := 1) dX9_pass_26 (by decide) ?_
  refine lk_callV (o := 1) (as := [lk_vi (nI (b)), lk_vi 1]) (S := []) dX9_pass_27 rfl vX9_boatGoes rfl lX9_159 rfl rfl (Nat.le_of_ble_eq_true rfl) (tX9_boatGoes_up1_ok l X d σ τ (b := (b)) (V := V) (T := T) (hb := hb12) (n := n) (k := k) (z := z) (hV := hV) (hr := hr) (hk := hk) (hu := hu) (hre := hre) (hs := hs) (hz := hz) (hz9 := hz9) (W := W) (h := h)) ?_
  refine lk_k3 ?_
  refine lk_cast (pc' := 30) (S' := [lk_vi 1]) rfl rfl rfl ?_
  refine lk_if_eq (tgt := 40) dX9_pass_30 (by decide) (fun hh3 => absurd hh3 (by decide)) (fun hh3 => ?_)
  refine lk_aload_n dX9_pass_33 rfl rfl ?_
  refine lk_getIv (v := ((V 6 (k + 1) - W 6 (k + 1)))) (f := 6) dX9_pass_34 rfl fX9_137 (by decide) (by decide) ((lk_rf (by decide)).trans rfl) ?_
  refine lk_goto (tgt := 42) dX9_pass_37 (by decide) ?_
  refine lk_iret .int dX9_pass_42 rfl rfl ?_
  rw [hQ]
  exact ⟨by first | rfl | (simp [*]; done) | (simp_all; done) | grind, by first | rfl | (simp [*]; done), rfl⟩

set_option maxHeartbeats 1000000 in
set_option maxRecDepth 100000 in
theorem tX9_pass_bar_up (l : Launch) (X : lk_G) (d : Nat) (σ : lk_N) (τ : lk_T) (V T : lk_O) (nf b : Nat) (hn : σ 1 0 114 = nI nf) (hb : b < nf) (hn12 : nf ≤ 12) (n k : Nat) (z : Int32) (hV : lk_cok V n) (hr : lk_rok V) (hk : k < n) (hu : σ 1 0 (90 + b) = 1) (hre : σ 1 0 (102 + b) = nI k) (hs : σ 1 0 (66 + b) = z) (hz : 0 ≤ z.toInt) (hz9 : z.toInt ≤ 9) (q : Int32 × Nat × Int32) (h : lk_pas V k true z = .inr q) : lk_Mt l X mX9_pass (d + 5) [lk_vr 1 0, lk_vi (nI (b))] (lk_ms σ V T) τ (fun rr σ1 τ1 => rr = some (lk_vi (-2000002)) ∧ τ1 = τ ∧ ∃ s : Int32, σ1 = lk_ms (lk_cau (lk_up (lk_bar σ q) 1 6 0 s) k q) V T) := by
  refine lk_met (L := [(0, lk_vr 1 0), (1, lk_vi (nI (b)))]) (by decide +kernel) (Nat.le_of_ble_eq_true rfl) rfl ?_
  obtain ⟨Q, hQ⟩ : ∃ Q : lk_Q, Q = fun rr σ1 τ1 => rr = some (lk_vi (-2000002)) ∧ τ1 = τ ∧ ∃ s : Int32, σ1 = lk_ms (lk_cau (lk_up (lk_bar σ q) 1 6 0 s) k q) V T := ⟨_, rfl⟩
  rw [← hQ]
  have hb12 : b < 12 := by omega
  refine lk_aload_n dX9_pass_0 rfl rfl ?_
  refine lk_iload_n dX9_pass_1 rfl rfl ?_
  refine lk_callV (o := 1) (as := [lk_vi (nI (b))]) (S := []) dX9_pass_2 rfl vX9_isBoat rfl lX9_112 rfl rfl (Nat.le_of_ble_eq_true rfl) (tX9_isBoat l X (d + 3) (lk_ms σ V T) τ (k := (nI (b))) ) ?_
  refine lk_k3 ?_
  refine lk_cast (pc' := 5) (S' := [lk_vi (if (0 : Int32) ≤ (nI (b)) ∧ (nI (b)) ≤ (lk_ms σ V T) 1 0 114 - 1 then 1 else 0)]) rfl rfl rfl ?_
  refine lk_if_neB (tgt := 11) dX9_pass_5 (by decide) (fun hh1 => ?_) (fun hh1 => absurd hh1 (fun q => q (by rw [lk_rB (by decide)]; exact lk_isb hn hb hn12)))
  refine lk_aload_n dX9_pass_11 rfl rfl ?_
  refine lk_iload_n dX9_pass_12 rfl rfl ?_
  refine lk_callV (o := 1) (as := [lk_vi (nI (b))]) (S := []) dX9_pass_13 rfl vX9_lockOf rfl lX9_151 rfl rfl (Nat.le_of_ble_eq_true rfl) (tX9_lockOf_up l X (d + 2) σ τ (b := (b)) (V := V) (T := T) (hb := hb12) (n := n) (k := k) (hV := hV) (hk := hk) (hu := hu) (hr := hre)) ?_
  refine lk_k3 ?_
  refine lk_cast (pc' := 16) (S' := [lk_vi (nI (k))]) rfl rfl rfl ?_
  refine lk_bipush (v := (-2)) dX9_pass_16 (by decide) ?_
  refine lk_icmp_ne (tgt := 24) dX9_pass_18 (by decide) (fun hh2 => ?_) (fun hh2 => absurd hh2 (lk_nim2 (by have := hV.2.2.1; omega)))
  refine lk_aload_n dX9_pass_24 rfl rfl ?_
  refine lk_iload_n dX9_pass_25 rfl rfl ?_
  refine lk_iconst (v := 1) dX9_pass_26 (by decide) ?_
  refine lk_callV (o := 1) (as := [lk_vi (nI (b)), lk_vi 1]) (S := []) dX9_pass_27 rfl vX9_boatGoes rfl lX9_159 rfl rfl (Nat.le_of_ble_eq_true rfl) (tX9_boatGoes_up1_no l X d σ τ (b := (b)) (V := V) (T := T) (hb := hb12) (n := n) (k := k) (z := z) (hV := hV) (hr := hr) (hk := hk) (hu := hu) (hre := hre) (hs := hs) (hz := hz) (hz9 := hz9) (q := q) (h := h)) ?_
  refine lk_k5 (fun s1 => ?_)
  refine lk_cast (pc' := 30) (S' := [lk_vi 0]) rfl rfl rfl ?_
  refine lk_sg (σ' := (lk_ms (lk_cau (lk_up (lk_bar σ q) 1 6 0 s1) k q) V T)) rfl ?_
  refine lk_if_eq (tgt := 40) dX9_pass_30 (by decide) (fun hh3 => ?_) (fun hh3 => absurd hh3 (by decide))
  refine lk_ldc dX9_pass_40 kX9_163 ?_
  refine lk_iret .int dX9_pass_42 rfl rfl ?_
  rw [hQ]
  exact ⟨rfl, rfl, s1, rfl⟩

set_option maxHeartbeats 1000000 in
set_option maxRecDepth 100000 in
theorem tX9_pass_none_dn (l : Launch) (X : lk_G) (d : Nat) (σ : lk_N) (τ : lk_T) (V T : lk_O) (nf b : Nat) (hn : σ 1 0 114 = nI nf) (hb : b < nf) (hn12 : nf ≤ 12) (n : Nat) (hV : lk_cok V n) (hu : σ 1 0 (90 + b) = 0) (hre : σ 1 0 (102 + b) = nI 0) : lk_Mt l X mX9_pass (d + 5) [lk_vr 1 0, lk_vi (nI (b))] (lk_ms σ V T) τ (fun rr σ1 τ1 => rr = some (lk_vi (-2000001)) ∧ σ1 = (lk_ms σ V T) ∧ τ1 = τ) := by
  refine lk_met (L := [(0, lk_vr 1 0), (1, lk_vi (nI (b)))]) (by decide +kernel) (Nat.le_of_ble_eq_true rfl) rfl ?_
  obtain ⟨Q, hQ⟩ : ∃ Q : lk_Q, Q = fun rr σ1 τ1 => rr = some (lk_vi (-2000001)) ∧ σ1 = (lk_ms σ V T) ∧ τ1 = τ := ⟨_, rfl⟩
  rw [← hQ]
  have hb12 : b < 12 := by omega
  refine lk_aload_n dX9_pass_0 rfl rfl ?_
  refine lk_iload_n dX9_pass_1 rfl rfl ?_
  refine lk_callV (o := 1) (as := [lk_vi (nI (b))]) (S := []) dX9_pass_2 rfl vX9_isBoat rfl lX9_112 rfl rfl (Nat.le_of_ble_eq_true rfl) (tX9_isBoat l X (d + 3) (lk_ms σ V T) τ (k := (nI (b))) ) ?_
  refine lk_k3 ?_
  refine lk_cast (pc' := 5) (S' := [lk_vi (if (0 : Int32) ≤ (nI (b)) ∧ (nI (b)) ≤ (lk_ms σ V T) 1 0 114 - 1 then 1 else 0)]) rfl rfl rfl ?_
  refine lk_if_neB (tgt := 11) dX9_pass_5 (by decide) (fun hh1 => ?_) (fun hh1 => absurd hh1 (fun q => q (by rw [lk_rB (by decide)]; exact lk_isb hn hb hn12)))
  refine lk_aload_n dX9_pass_11 rfl rfl ?_
  refine lk_iload_n dX9_pass_12 rfl rfl ?_
  refine lk_callV (o := 1) (as := [lk_vi (nI (b))]) (S := []) dX9_pass_13 rfl vX9_lockOf rfl lX9_151 rfl rfl (Nat.le_of_ble_eq_true rfl) (tX9_lockOf_dn0 l X (d + 2) σ τ (b := (b)) (V := V) (T := T) (hb := hb12) (n := n) (hV := hV) (hu := hu) (hr := hre)) ?_
  refine lk_k3 ?_
  refine lk_cast (pc' := 16) (S' := [lk_vi (-2)]) rfl rfl rfl ?_
  refine lk_bipush (v := (-2)) dX9_pass_16 (by decide) ?_
  refine lk_icmp_ne (tgt := 24) dX9_pass_18 (by decide) (fun hh2 => absurd hh2 (by decide)) (fun hh2 => ?_)
  refine lk_ldc dX9_pass_21 kX9_158 ?_
  refine lk_iret .int dX9_pass_23 rfl rfl ?_
  rw [hQ]
  exact ⟨by first | rfl | (simp [*]; done) | (simp_all; done) | grind, by first | rfl | (simp [*]; done), rfl⟩

set_option maxHeartbeats 1000000 in
set_option maxRecDepth 100000 in
theorem tX9_pass_ok_dn (l : Launch) (X : lk_G) (d : Nat) (σ : lk_N) (τ : lk_T) (V T : lk_O) (nf b : Nat) (hn : σ 1 0 114 = nI nf) (hb : b < nf) (hn12 : nf ≤ 12) (n k : Nat) (z : Int32) (hV : lk_cok V n) (hr : lk_rok V) (hk : k < n) (hu : σ 1 0 (90 + b) = 0) (hre : σ 1 0 (102 + b) = nI (k + 1)) (hs : σ 1 0 (66 + b) = z) (hz : 0 ≤ z.toInt) (hz9 : z.toInt ≤ 9) (W : lk_O) (h : lk_pas V k false z = .inl W) : lk_Mt l X mX9_pass (d + 5) [lk_vr 1 0, lk_vi (nI (b))] (lk_ms σ V T) τ (fun rr σ1 τ1 => rr = some (lk_vi ((V 6 (k + 1) - W 6 (k + 1)))) ∧ σ1 = (lk_ms (lk_up (lk_up σ 1 6 0 (V 6 (k + 1) - W 6 (k + 1))) 1 0 (102 + b) (nI (k))) W (lk_tad T (V 6 (k + 1) - W 6 (k + 1)))) ∧ τ1 = τ) := by
  refine lk_met (L := [(0, lk_vr 1 0), (1, lk_vi (nI (b)))]) (by decide +kernel) (Nat.le_of_ble_eq_true rfl) rfl ?_
  obtain ⟨Q, hQ⟩ : ∃ Q : lk_Q, Q = fun rr σ1 τ1 => rr = some (lk_vi ((V 6 (k + 1) - W 6 (k + 1)))) ∧ σ1 = (lk_ms (lk_up (lk_up σ 1 6 0 (V 6 (k + 1) - W 6 (k + 1))) 1 0 (102 + b) (nI (k))) W (lk_tad T (V 6 (k + 1) - W 6 (k + 1)))) ∧ τ1 = τ := ⟨_, rfl⟩
  rw [← hQ]
  have hb12 : b < 12 := by omega
  refine lk_aload_n dX9_pass_0 rfl rfl ?_
  refine lk_iload_n dX9_pass_1 rfl rfl ?_
  refine lk_callV (o := 1) (as := [lk_vi (nI (b))]) (S := []) dX9_pass_2 rfl vX9_isBoat rfl lX9_112 rfl rfl (Nat.le_of_ble_eq_true rfl) (tX9_isBoat l X (d + 3) (lk_ms σ V T) τ (k := (nI (b))) ) ?_
  refine lk_k3 ?_
  refine lk_cast (pc' := 5) (S' := [lk_vi (if (0 : Int32) ≤ (nI (b)) ∧ (nI (b)) ≤ (lk_ms σ V T) 1 0 114 - 1 then 1 else 0)]) rfl rfl rfl ?_
  refine lk_if_neB (tgt := 11) dX9_pass_5 (by decide) (fun hh1 => ?_) (fun hh1 => absurd hh1 (fun q => q (by rw [lk_rB (by decide)]; exact lk_isb hn hb hn12)))
  refine lk_aload_n dX9_pass_11 rfl rfl ?_
  refine lk_iload_n dX9_pass_12 rfl rfl ?_
  refine lk_callV (o := 1) (as := [lk_vi (nI (b))]) (S := []) dX9_pass_13 rfl vX9_lockOf rfl lX9_151 rfl rfl (Nat.le_of_ble_eq_true rfl) (tX9_lockOf_dn l X (d + 2) σ τ (b := (b)) (V := V) (T := T) (hb := hb12) (n := n) (k := k) (hV := hV) (hk := hk) (hu := hu) (hr := hre)) ?_
  refine lk_k3 ?_
  refine lk_cast (pc' := 16) (S' := [lk_vi (nI (k))]) rfl rfl rfl ?_
  refine lk_bipush (v := (-2)) dX9_pass_16 (by decide) ?_
  refine lk_icmp_ne (tgt := 24) dX9_pass_18 (by decide) (fun hh2 => ?_) (fun hh2 => absurd hh2 (lk_nim2 (by have := hV.2.2.1; omega)))
  refine lk_aload_n dX9_pass_24 rfl rfl ?_
  refine lk_iload_n dX9_pass_25 rfl rfl ?_
  refine lk_iconst (v := 1) dX9_pass_26 (by decide) ?_
  refine lk_callV (o := 1) (as := [lk_vi (nI (b)), lk_vi 1]) (S := []) dX9_pass_27 rfl vX9_boatGoes rfl lX9_159 rfl rfl (Nat.le_of_ble_eq_true rfl) (tX9_boatGoes_dn1_ok l X d σ τ (b := (b)) (V := V) (T := T) (hb := hb12) (n := n) (k := k) (z := z) (hV := hV) (hr := hr) (hk := hk) (hu := hu) (hre := hre) (hs := hs) (hz := hz) (hz9 := hz9) (W := W) (h := h)) ?_
  refine lk_k3 ?_
  refine lk_cast (pc' := 30) (S' := [lk_vi 1]) rfl rfl rfl ?_
  refine lk_if_eq (tgt := 40) dX9_pass_30 (by decide) (fun hh3 => absurd hh3 (by decide)) (fun hh3 => ?_)
  refine lk_aload_n dX9_pass_33 rfl rfl ?_
  refine lk_getIv (v := ((V 6 (k + 1) - W 6 (k + 1)))) (f := 6) dX9_pass_34 rfl fX9_137 (by decide) (by decide) ((lk_rf (by decide)).trans rfl) ?_
  refine lk_goto (tgt := 42) dX9_pass_37 (by decide) ?_
  refine lk_iret .int dX9_pass_42 rfl rfl ?_
  rw [hQ]
  exact ⟨by first | rfl | (simp [*]; done) | (simp_all; done) | grind, by first | rfl | (simp [*]; done), rfl⟩

set_option maxHeartbeats 1000000 in
set_option maxRecDepth 100000 in
theorem tX9_pass_bar_dn (l : Launch) (X : lk_G) (d : Nat) (σ : lk_N) (τ : lk_T) (V T : lk_O) (nf b : Nat) (hn : σ 1 0 114 = nI nf) (hb : b < nf) (hn12 : nf ≤ 12) (n k : Nat) (z : Int32) (hV : lk_cok V n) (hr : lk_rok V) (hk : k < n) (hu : σ 1 0 (90 + b) = 0) (hre : σ 1 0 (102 + b) = nI (k + 1)) (hs : σ 1 0 (66 + b) = z) (hz : 0 ≤ z.toInt) (hz9 : z.toInt ≤ 9) (q : Int32 × Nat × Int32) (h : lk_pas V k false z = .inr q) : lk_Mt l X mX9_pass (d + 5) [lk_vr 1 0, lk_vi (nI (b))] (lk_ms σ V T) τ (fun rr σ1 τ1 => rr = some (lk_vi (-2000002)) ∧ τ1 = τ ∧ ∃ s : Int32, σ1 = lk_ms (lk_cau (lk_up (lk_bar σ q) 1 6 0 s) k q) V T) := by
  refine lk_met (L := [(0, lk_vr 1 0), (1, lk_vi (nI (b)))]) (by decide +kernel) (Nat.le_of_ble_eq_true rfl) rfl ?_
  obtain ⟨Q, hQ⟩ : ∃ Q : lk_Q, Q = fun rr σ1 τ1 => rr = some (lk_vi (-2000002)) ∧ τ1 = τ ∧ ∃ s : Int32, σ1 = lk_ms (lk_cau (lk_up (lk_bar σ q) 1 6 0 s) k q) V T := ⟨_, rfl⟩
  rw [← hQ]
  have hb12 : b < 12 := by omega
  refine lk_aload_n dX9_pass_0 rfl rfl ?_
  refine lk_iload_n dX9_pass_1 rfl rfl ?_
  refine lk_callV (o := 1) (as := [lk_vi (nI (b))]) (S := []) dX9_pass_2 rfl vX9_isBoat rfl lX9_112 rfl rfl (Nat.le_of_ble_eq_true rfl) (tX9_isBoat l X (d + 3) (lk_ms σ V T) τ (k := (nI (b))) ) ?_
  refine lk_k3 ?_
  refine lk_cast (pc' := 5) (S' := [lk_vi (if (0 : Int32) ≤ (nI (b)) ∧ (nI (b)) ≤ (lk_ms σ V T) 1 0 114 - 1 then 1 else 0)]) rfl rfl rfl ?_
  refine lk_if_neB (tgt := 11) dX9_pass_5 (by decide) (fun hh1 => ?_) (fun hh1 => absurd hh1 (fun q => q (by rw [lk_rB (by decide)]; exact lk_isb hn hb hn12)))
  refine lk_aload_n dX9_pass_11 rfl rfl ?_
  refine lk_iload_n dX9_pass_12 rfl rfl ?_
  refine lk_callV (o := 1) (as := [lk_vi (nI (b))]) (S := []) dX9_pass_13 rfl vX9_lockOf rfl lX9_151 rfl rfl (Nat.le_of_ble_eq_true rfl) (tX9_lockOf_dn l X (d + 2) σ τ (b := (b)) (V := V) (T := T) (hb := hb12) (n := n) (k := k) (hV := hV) (hk := hk) (hu := hu) (hr := hre)) ?_
  refine lk_k3 ?_
  refine lk_cast (pc' := 16) (S' := [lk_vi (nI (k))]) rfl rfl rfl ?_
  refine lk_bipush (v := (-2)) dX9_pass_16 (by decide) ?_
  refine lk_icmp_ne (tgt := 24) dX9_pass_18 (by decide) (fun hh2 => ?_) (fun hh2 => absurd hh2 (lk_nim2 (by have := hV.2.2.1; omega)))
  refine lk_aload_n dX9_pass_24 rfl rfl ?_
  refine lk_iload_n dX9_pass_25 rfl rfl ?_
  refine lk_iconst (v := 1) dX9_pass_26 (by decide) ?_
  refine lk_callV (o := 1) (as := [lk_vi (nI (b)), lk_vi 1]) (S := []) dX9_pass_27 rfl vX9_boatGoes rfl lX9_159 rfl rfl (Nat.le_of_ble_eq_true rfl) (tX9_boatGoes_dn1_no l X d σ τ (b := (b)) (V := V) (T := T) (hb := hb12) (n := n) (k := k) (z := z) (hV := hV) (hr := hr) (hk := hk) (hu := hu) (hre := hre) (hs := hs) (hz := hz) (hz9 := hz9) (q := q) (h := h)) ?_
  refine lk_k5 (fun s1 => ?_)
  refine lk_cast (pc' := 30) (S' := [lk_vi 0]) rfl rfl rfl ?_
  refine lk_sg (σ' := (lk_ms (lk_cau (lk_up (lk_bar σ q) 1 6 0 s1) k q) V T)) rfl ?_
  refine lk_if_eq (tgt := 40) dX9_pass_30 (by decide) (fun hh3 => ?_) (fun hh3 => absurd hh3 (by decide))
  refine lk_ldc dX9_pass_40 kX9_163 ?_
  refine lk_iret .int dX9_pass_42 rfl rfl ?_
  rw [hQ]
  exact ⟨rfl, rfl, s1, rfl⟩
