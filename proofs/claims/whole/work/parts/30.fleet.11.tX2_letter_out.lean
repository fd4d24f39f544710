set_option maxHeartbeats 1000000 in
set_option maxRecDepth 100000 in
theorem tX2_letter_out (l : Launch) (X : lk_G) (d : Nat) (σ : lk_N) (τ : lk_T) (f : Nat) (hf : lk_ko f = 2) (n b : Nat) (hn : σ f 5 0 = nI n) (hb : b < n) (hn22 : n ≤ 22) (k : Int32) (hk : 4 ≤ k) : lk_Mt l X mX2_letter (d + 1) [lk_vr f 0, lk_vi (nI (b)), lk_vi (k)] σ τ (fun rr σ1 τ1 => rr = some (lk_vi (-2)) ∧ σ1 = σ ∧ τ1 = τ) := by
  refine lk_met (L := [(0, lk_vr f 0), (1, lk_vi (nI (b))), (2, lk_vi (k))]) (by decide +kernel) (Nat.le_of_ble_eq_true rfl) rfl ?_
  obtain ⟨Q, hQ⟩ : ∃ Q : lk_Q, Q = fun rr σ1 τ1 => rr = some (lk_vi (-2)) ∧ σ1 = σ ∧ τ1 = τ := ⟨_, rfl⟩
  rw [← hQ]
  refine lk_aload_n dX2_letter_0 rfl rfl ?_
  refine lk_iload_n dX2_letter_1 rfl rfl ?_
  refine lk_callV (o := f) (as := [lk_vi (nI (b))]) (S := []) dX2_letter_2 rfl vX2_has rfl lX2_59 hf rfl (Nat.le_of_ble_eq_true rfl) (tX2_has_in l X d σ τ (f := f) (b := (b)) (hf := hf) (n := n) (hn := hn) (hb := hb) (hn22 := hn22)) ?_
  refine lk_k3 ?_
  refine lk_cast (pc' := 5) (S' := [lk_vi 1]) rfl rfl rfl ?_
  refine lk_if_eq (tgt := 17) dX2_letter_5 (by decide) (fun hh1 => absurd hh1 (by decide)) (fun hh1 => ?_)
  refine lk_iload_n dX2_letter_8 rfl rfl ?_
  refine lk_if_lt (tgt := 17) dX2_letter_9 (by decide) (fun hh2 => ?_) (fun hh2 => ?_)
  ·
    refine lk_bipush (v := (-2)) dX2_letter_17 (by decide) ?_
    refine lk_iret .int dX2_letter_19 rfl rfl ?_
    rw [hQ]
    first | exact ⟨rfl, rfl, rfl⟩ | (exfalso; simp_all [Int32.not_lt, Int32.not_le]; done)
  ·
    refine lk_iload_n dX2_letter_12 rfl rfl ?_
    refine lk_iconst (v := 4) dX2_letter_13 (by decide) ?_
    refine lk_icmp_lt (tgt := 20) dX2_letter_14 (by decide) (fun hh3 => absurd hh3 (Int32.not_lt.mpr hk)) (fun hh3 => ?_)
    refine lk_bipush (v := (-2)) dX2_letter_17 (by decide) ?_
    refine lk_iret .int dX2_letter_19 rfl rfl ?_
    rw [hQ]
    first | exact ⟨rfl, rfl, rfl⟩ | (exfalso; simp_all [Int32.not_lt, Int32.not_le]; done)
