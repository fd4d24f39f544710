set_option maxHeartbeats 1000000 in
set_option maxRecDepth 100000 in
theorem tX2_rankOf (l : Launch) (X : lk_G) (d : Nat) (σ : lk_N) (τ : lk_T) (f : Nat) (hf : lk_ko f = 2) (n b : Nat) (hn : σ f 5 0 = nI n) (hb : b < n) (hn22 : n ≤ 22) : lk_Mt l X mX2_rankOf (d + 1) [lk_vr f 0, lk_vi (nI (b))] σ τ (fun rr σ1 τ1 => rr = some (lk_vi (σ f 2 b)) ∧ σ1 = σ ∧ τ1 = τ) := by
  refine lk_met (L := [(0, lk_vr f 0), (1, lk_vi (nI (b)))]) (by decide +kernel) (Nat.le_of_ble_eq_true rfl) rfl ?_
  obtain ⟨Q, hQ⟩ : ∃ Q : lk_Q, Q = fun rr σ1 τ1 => rr = some (lk_vi (σ f 2 b)) ∧ σ1 = σ ∧ τ1 = τ := ⟨_, rfl⟩
  rw [← hQ]
  refine lk_aload_n dX2_rankOf_0 rfl rfl ?_
  refine lk_iload_n dX2_rankOf_1 rfl rfl ?_
  refine lk_callV (o := f) (as := [lk_vi (nI (b))]) (S := []) dX2_rankOf_2 rfl vX2_has rfl lX2_59 hf rfl (Nat.le_of_ble_eq_true rfl) (tX2_has_in l X d σ τ (f := f) (b := (b)) (hf := hf) (n := n) (hn := hn) (hb := hb) (hn22 := hn22)) ?_
  refine lk_k3 ?_
  refine lk_cast (pc' := 5) (S' := [lk_vi 1]) rfl rfl rfl ?_
  refine lk_if_eq (tgt := 17) dX2_rankOf_5 (by decide) (fun hh1 => absurd hh1 (by decide)) (fun hh1 => ?_)
  refine lk_aload_n dX2_rankOf_8 rfl rfl ?_
  refine lk_getR (f := 2) dX2_rankOf_9 hf fX2_18 (by decide) (by decide) ?_
  refine lk_iload_n dX2_rankOf_12 rfl rfl ?_
  refine lk_ialdN (f := 2) (i := b) dX2_rankOf_13 hf (by decide) rfl (by omega) (by decide) ?_
  refine lk_goto (tgt := 18) dX2_rankOf_14 (by decide) ?_
  refine lk_iret .int dX2_rankOf_18 rfl rfl ?_
  rw [hQ]
  exact ⟨by first | rfl | (simp [*]; done) | (simp_all; done) | grind, by first | rfl | (simp [*]; done), rfl⟩
