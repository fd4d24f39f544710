set_option maxHeartbeats 1000000 in
set_option maxRecDepth 100000 in
theorem tX2_numberOf (l : Launch) (X : lk_G) (d : Nat) (σ : lk_N) (τ : lk_T) (f : Nat) (hf : lk_ko f = 2) (n : Nat) (w : Int32) (hn : σ f 5 0 = nI n) (hn22 : n ≤ 22) : lk_Mt l X mX2_numberOf d [lk_vr f 0, lk_vi (w)] σ τ (fun rr σ1 τ1 => rr = some (lk_vi (lk_fno (σ f) w n 0)) ∧ σ1 = σ ∧ τ1 = τ) := by
  refine lk_met (L := [(0, lk_vr f 0), (1, lk_vi (w))]) (by decide +kernel) (Nat.le_of_ble_eq_true rfl) rfl ?_
  obtain ⟨Q, hQ⟩ : ∃ Q : lk_Q, Q = fun rr σ1 τ1 => rr = some (lk_vi (lk_fno (σ f) w n 0)) ∧ σ1 = σ ∧ τ1 = τ := ⟨_, rfl⟩
  rw [← hQ]
  refine lk_iconst (v := 0) dX2_numberOf_0 (by decide) ?_
  refine lk_istore_n (L' := [(0, lk_vr f 0), (1, lk_vi (w)), (2, lk_vi 0)]) dX2_numberOf_1 rfl (by decide +kernel) rfl ?_
  have LP2 : ∀ (fu : Nat) (b : Nat), b ≤ n → lk_fno (σ f) w n 0 = lk_fno (σ f) w (n - b) b → n - b < fu → lk_W l X mX2_numberOf d 2 [(0, lk_vr f 0), (1, lk_vi (w)), (2, lk_vi (nI (b)))] [] σ τ Q := by
    intro fu
    induction fu with
    | zero => intro b hb hI hfu; exact absurd hfu (by omega)
    | succ fu ih =>
      intro b hb hI hfu
      refine lk_iload_n dX2_numberOf_2 rfl rfl ?_
      refine lk_aload_n dX2_numberOf_3 rfl rfl ?_
      refine lk_getIv (v := nI (n)) (f := 5) dX2_numberOf_4 hf fX2_28 (by decide) (by decide) hn ?_
      refine lk_icmp_geN (a := b) (b := n) (tgt := 28) dX2_numberOf_7 (by decide) (by omega) (by omega) (fun hh1 => ?_) (fun hh1 => ?_)
      ·
        refine lk_bipush (v := (-2)) dX2_numberOf_28 (by decide) ?_
        refine lk_iret .int dX2_numberOf_30 rfl rfl ?_
        rw [hQ]
        rw [show n - b = 0 by omega] at hI
        conv at hI => rhs; rw [lk_fno]
        exact ⟨by rw [hI], rfl, rfl⟩
      ·
        refine lk_aload_n dX2_numberOf_10 rfl rfl ?_
        refine lk_getR (f := 0) dX2_numberOf_11 hf fX2_11 (by decide) (by decide) ?_
        refine lk_iload_n dX2_numberOf_14 rfl rfl ?_
        refine lk_ialdN (f := 0) (i := b) dX2_numberOf_15 hf (by decide) rfl (by omega) (by decide) ?_
        refine lk_iload_n dX2_numberOf_16 rfl rfl ?_
        refine lk_icmp_ne (tgt := 22) dX2_numberOf_17 (by decide) (fun hh2 => ?_) (fun hh2 => ?_)
        ·
          refine lk_iincN (a := b) (m := 1) (L' := [(0, lk_vr f 0), (1, lk_vi (w)), (2, lk_vi (nI (b + 1)))]) dX2_numberOf_22 rfl rfl (by decide +kernel) rfl ?_
          refine lk_goto (tgt := 2) dX2_numberOf_25 (by decide) ?_
          rw [show n - b = (n - (b + 1)) + 1 by omega] at hI
          conv at hI => rhs; rw [lk_fno]
          rw [if_neg (by assumption)] at hI
          exact ih (b + 1) (by omega) hI (by omega)
        ·
          refine lk_iload_n dX2_numberOf_20 rfl rfl ?_
          refine lk_iret .int dX2_numberOf_21 rfl rfl ?_
          rw [hQ]
          rw [show n - b = (n - (b + 1)) + 1 by omega] at hI
          conv at hI => rhs; rw [lk_fno]
          rw [if_pos (by assumption)] at hI
          exact ⟨by rw [hI], rfl, rfl⟩
  exact LP2 (n + 1) 0 (by omega) rfl (by omega)
