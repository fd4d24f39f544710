set_option maxHeartbeats 1000000 in
set_option maxRecDepth 100000 in
theorem tX2_moveOn (l : Launch) (X : lk_G) (d : Nat) (σ : lk_N) (τ : lk_T) (f : Nat) (hf : lk_ko f = 2) (n b : Nat) (hn : σ f 5 0 = nI n) (hb : b < n) (hn22 : n ≤ 22) (r : Int32) : lk_Mt l X mX2_moveOn (d + 1) [lk_vr f 0, lk_vi (nI (b)), lk_vi (r)] σ τ (fun rr σ1 τ1 => rr = none ∧ σ1 = lk_up σ f 4 b (σ f 4 b + if σ f 3 b = 0 then 0 - r else r) ∧ τ1 = τ) := by
  refine lk_met (L := [(0, lk_vr f 0), (1, lk_vi (nI (b))), (2, lk_vi (r))]) (by decide +kernel) (Nat.le_of_ble_eq_true rfl) rfl ?_
  obtain ⟨Q, hQ⟩ : ∃ Q : lk_Q, Q = fun rr σ1 τ1 => rr = none ∧ σ1 = lk_up σ f 4 b (σ f 4 b + if σ f 3 b = 0 then 0 - r else r) ∧ τ1 = τ := ⟨_, rfl⟩
  rw [← hQ]
  refine lk_aload_n dX2_moveOn_0 rfl rfl ?_
  refine lk_iload_n dX2_moveOn_1 rfl rfl ?_
  refine lk_callV (o := f) (as := [lk_vi (nI (b))]) (S := []) dX2_moveOn_2 rfl vX2_has rfl lX2_59 hf rfl (Nat.le_of_ble_eq_true rfl) (tX2_has_in l X d σ τ (f := f) (b := (b)) (hf := hf) (n := n) (hn := hn) (hb := hb) (hn22 := hn22)) ?_
  refine lk_k3 ?_
  refine lk_cast (pc' := 5) (S' := [lk_vi 1]) rfl rfl rfl ?_
  refine lk_if_eq (tgt := 32) dX2_moveOn_5 (by decide) (fun hh1 => absurd hh1 (by decide)) (fun hh1 => ?_)
  refine lk_aload_n dX2_moveOn_8 rfl rfl ?_
  refine lk_getR (f := 4) dX2_moveOn_9 hf fX2_25 (by decide) (by decide) ?_
  refine lk_iload_n dX2_moveOn_12 rfl rfl ?_
  refine lk_dup2 dX2_moveOn_13 rfl rfl ?_
  refine lk_ialdN (f := 4) (i := b) dX2_moveOn_14 hf (by decide) rfl (by omega) (by decide) ?_
  refine lk_aload_n dX2_moveOn_15 rfl rfl ?_
  refine lk_getR (f := 3) dX2_moveOn_16 hf fX2_21 (by decide) (by decide) ?_
  refine lk_iload_n dX2_moveOn_19 rfl rfl ?_
  refine lk_zaldN (f := 3) (i := b) dX2_moveOn_20 hf (by decide) rfl (by omega) (by decide) ?_
  refine lk_if_eq (tgt := 28) dX2_moveOn_21 (by decide) (fun hh2 => ?_) (fun hh2 => ?_)
  ·
    refine lk_iload_n dX2_moveOn_28 rfl rfl ?_
    refine lk_ineg dX2_moveOn_29 ?_
    refine lk_iadd dX2_moveOn_30 ?_
    refine lk_iastN (f := 4) (i := b) (v := ((σ f 4 (b)) + (0 - (r)))) dX2_moveOn_31 hf (by decide) rfl (by omega) (by decide) ?_
    refine lk_vret dX2_moveOn_32 rfl ?_
    rw [hQ]
    refine ⟨rfl, ?_, rfl⟩
    first | rw [if_pos (by assumption)] | rw [if_neg (by assumption)]
  ·
    refine lk_iload_n dX2_moveOn_24 rfl rfl ?_
    refine lk_goto (tgt := 30) dX2_moveOn_25 (by decide) ?_
    refine lk_iadd dX2_moveOn_30 ?_
    refine lk_iastN (f := 4) (i := b) (v := ((σ f 4 (b)) + (r))) dX2_moveOn_31 hf (by decide) rfl (by omega) (by decide) ?_
    refine lk_vret dX2_moveOn_32 rfl ?_
    rw [hQ]
    refine ⟨rfl, ?_, rfl⟩
    first | rw [if_pos (by assumption)] | rw [if_neg (by assumption)]
