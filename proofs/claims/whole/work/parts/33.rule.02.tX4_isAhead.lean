set_option maxHeartbeats 1000000 in
set_option maxRecDepth 100000 in
theorem tX4_isAhead (l : Launch) (X : lk_G) (d : Nat) (σ : lk_N) (τ : lk_T) (f : Nat) (hf : lk_ko f = 2) (n : Nat) (hn : σ f 5 0 = nI n) (hn22 : n ≤ 22) (a b : Nat) (ha : a < n) (hb : b < n) : lk_Mt l X mX4_isAhead (d + 2) [lk_vr f 0, lk_vi (nI (a)), lk_vi (nI (b))] σ τ (fun rr σ1 τ1 => rr = some (lk_vi (if lk_ahd (σ f 2) a b = true then 1 else 0)) ∧ σ1 = σ ∧ τ1 = τ) := by
  refine lk_met (L := [(0, lk_vr f 0), (1, lk_vi (nI (a))), (2, lk_vi (nI (b)))]) (by decide +kernel) (Nat.le_of_ble_eq_true rfl) rfl ?_
  obtain ⟨Q, hQ⟩ : ∃ Q : lk_Q, Q = fun rr σ1 τ1 => rr = some (lk_vi (if lk_ahd (σ f 2) a b = true then 1 else 0)) ∧ σ1 = σ ∧ τ1 = τ := ⟨_, rfl⟩
  rw [← hQ]
  refine lk_aload_n dX4_isAhead_0 rfl rfl ?_
  refine lk_iload_n dX4_isAhead_1 rfl rfl ?_
  refine lk_callV (o := f) (as := [lk_vi (nI (a))]) (S := []) dX4_isAhead_2 rfl vX2_rankOf rfl lX4_58 hf rfl (Nat.le_of_ble_eq_true rfl) (tX2_rankOf l X d σ τ (f := f) (b := (a)) (hf := hf) (n := n) (hn := hn) (hb := ha) (hn22 := hn22)) ?_
  refine lk_k3 ?_
  refine lk_cast (pc' := 5) (S' := [lk_vi (σ f 2 (a))]) rfl rfl rfl ?_
  refine lk_istore_n (L' := [(0, lk_vr f 0), (1, lk_vi (nI (a))), (2, lk_vi (nI (b))), (3, lk_vi (σ f 2 (a)))]) dX4_isAhead_5 rfl (by decide +kernel) rfl ?_
  refine lk_aload_n dX4_isAhead_6 rfl rfl ?_
  refine lk_iload_n dX4_isAhead_7 rfl rfl ?_
  refine lk_callV (o := f) (as := [lk_vi (nI (b))]) (S := []) dX4_isAhead_8 rfl vX2_rankOf rfl lX4_58 hf rfl (Nat.le_of_ble_eq_true rfl) (tX2_rankOf l X d σ τ (f := f) (b := (b)) (hf := hf) (n := n) (hn := hn) (hb := hb) (hn22 := hn22)) ?_
  refine lk_k3 ?_
  refine lk_cast (pc' := 11) (S' := [lk_vi (σ f 2 (b))]) rfl rfl rfl ?_
  refine lk_istore (L' := [(0, lk_vr f 0), (1, lk_vi (nI (a))), (2, lk_vi (nI (b))), (3, lk_vi (σ f 2 (a))), (4, lk_vi (σ f 2 (b)))]) dX4_isAhead_11 (by decide +kernel) rfl ?_
  refine lk_iload_n dX4_isAhead_13 rfl rfl ?_
  refine lk_iload dX4_isAhead_14 rfl ?_
  refine lk_icmp_gt (tgt := 30) dX4_isAhead_16 (by decide) (fun hh1 => ?_) (fun hh1 => ?_)
  ·
    refine lk_iconst (v := 1) dX4_isAhead_30 (by decide) ?_
    refine lk_goto (tgt := 35) dX4_isAhead_31 (by decide) ?_
    refine lk_iret .boolean dX4_isAhead_35 rfl rfl ?_
    rw [hQ]
    refine ⟨?_, rfl, rfl⟩
    first | (rw [if_pos (lk_ahd_t (by first | exact Or.inl (by assumption) | exact Or.inr ⟨by assumption, by assumption⟩))]) | (rw [if_neg (lk_ahd_f (by rintro (z | ⟨z1, z2⟩) <;> first | contradiction | omega))])
  ·
    refine lk_iload_n dX4_isAhead_19 rfl rfl ?_
    refine lk_iload dX4_isAhead_20 rfl ?_
    refine lk_icmp_ne (tgt := 34) dX4_isAhead_22 (by decide) (fun hh2 => ?_) (fun hh2 => ?_)
    ·
      refine lk_iconst (v := 0) dX4_isAhead_34 (by decide) ?_
      refine lk_iret .boolean dX4_isAhead_35 rfl rfl ?_
      rw [hQ]
      refine ⟨?_, rfl, rfl⟩
      first | (rw [if_pos (lk_ahd_t (by first | exact Or.inl (by assumption) | exact Or.inr ⟨by assumption, by assumption⟩))]) | (rw [if_neg (lk_ahd_f (by rintro (z | ⟨z1, z2⟩) <;> first | contradiction | omega))])
    ·
      refine lk_iload_n dX4_isAhead_25 rfl rfl ?_
      refine lk_iload_n dX4_isAhead_26 rfl rfl ?_
      refine lk_icmp_geN (a := a) (b := b) (tgt := 34) dX4_isAhead_27 (by decide) (by omega) (by omega) (fun hh3 => ?_) (fun hh3 => ?_)
      ·
        refine lk_iconst (v := 0) dX4_isAhead_34 (by decide) ?_
        refine lk_iret .boolean dX4_isAhead_35 rfl rfl ?_
        rw [hQ]
        refine ⟨?_, rfl, rfl⟩
        first | (rw [if_pos (lk_ahd_t (by first | exact Or.inl (by assumption) | exact Or.inr ⟨by assumption, by assumption⟩))]) | (rw [if_neg (lk_ahd_f (by rintro (z | ⟨z1, z2⟩) <;> first | contradiction | omega))])
      ·
        refine lk_iconst (v := 1) dX4_isAhead_30 (by decide) ?_
        refine lk_goto (tgt := 35) dX4_isAhead_31 (by decide) ?_
        refine lk_iret .boolean dX4_isAhead_35 rfl rfl ?_
        rw [hQ]
        refine ⟨?_, rfl, rfl⟩
        first | (rw [if_pos (lk_ahd_t (by first | exact Or.inl (by assumption) | exact Or.inr ⟨by assumption, by assumption⟩))]) | (rw [if_neg (lk_ahd_f (by rintro (z | ⟨z1, z2⟩) <;> first | contradiction | omega))])
