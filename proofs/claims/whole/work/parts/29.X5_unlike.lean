set_option maxHeartbeats 4000000 in
set_option maxRecDepth 100000 in
theorem tX5_unlike (l : Launch) (X : lk_G) (d : Nat) (σ : lk_N) (τ : lk_T) (t : Nat) (ht : lk_ko t = 5) : lk_Mt l X mX5_unlike d [lk_vr t 0] σ τ (fun rr σ1 τ1 => rr = some (lk_vi (nI (lk_ct (fun k => decide (0 < σ t 0 k)) 118))) ∧ σ1 = σ ∧ τ1 = τ) := by
  refine lk_met (L := [(0, lk_vr t 0)]) (by decide +kernel) (Nat.le_of_ble_eq_true rfl) rfl ?_
  obtain ⟨Q, hQ⟩ : ∃ Q : lk_Q, Q = fun rr σ1 τ1 => rr = some (lk_vi (nI (lk_ct (fun k => decide (0 < σ t 0 k)) 118))) ∧ σ1 = σ ∧ τ1 = τ := ⟨_, rfl⟩
  rw [← hQ]
  refine lk_iconst (v := 0) dX5_unlike_0 (by decide) ?_
  refine lk_istore_n (L' := [(0, lk_vr t 0), (1, lk_vi 0)]) dX5_unlike_1 rfl (by decide +kernel) rfl ?_
  refine lk_iconst (v := 0) dX5_unlike_2 (by decide) ?_
  refine lk_istore_n (L' := [(0, lk_vr t 0), (1, lk_vi 0), (2, lk_vi 0)]) dX5_unlike_3 rfl (by decide +kernel) rfl ?_
  have LP4 : ∀ (fu : Nat) (i : Nat) (y : Nat), i ≤ 118 → y = lk_ct (fun k => decide (0 < σ t 0 k)) i → 118 - i < fu → lk_W l X mX5_unlike d 4 [(0, lk_vr t 0), (1, lk_vi (nI (y))), (2, lk_vi (nI (i)))] [] σ τ Q := by
    intro fu
    induction fu with
    | zero => intro i y hi hy hfu; exact absurd hfu (by omega)
    | succ fu ih =>
      intro i y hi hy hfu
      refine lk_iload_n dX5_unlike_4 rfl rfl ?_
      refine lk_aload_n dX5_unlike_5 rfl rfl ?_
      refine lk_getR (f := 0) dX5_unlike_6 ht fX5_11 (by decide) (by decide) ?_
      refine lk_alenI (f := 0) (v := 118) dX5_unlike_9 ht (by decide) rfl rfl ?_
      refine lk_icmp_geN (a := i) (b := 118) (tgt := 31) dX5_unlike_10 (by decide) (by omega) (by omega) (fun hh1 => ?_) (fun hh1 => ?_)
      ·
        refine lk_iload_n dX5_unlike_31 rfl rfl ?_
        refine lk_iret .int dX5_unlike_32 rfl rfl ?_
        rw [hQ]
        have : i = 118 := by omega
        subst this
        exact ⟨by rw [hy], rfl, rfl⟩
      ·
        refine lk_aload_n dX5_unlike_13 rfl rfl ?_
        refine lk_getR (f := 0) dX5_unlike_14 ht fX5_11 (by decide) (by decide) ?_
        refine lk_iload_n dX5_unlike_17 rfl rfl ?_
        refine lk_ialdN (f := 0) (i := i) dX5_unlike_18 ht (by decide) rfl (by omega) (by decide) ?_
        refine lk_if_le (tgt := 25) dX5_unlike_19 (by decide) (fun hh2 => ?_) (fun hh2 => ?_)
        ·
          refine lk_iincN (a := i) (m := 1) (L' := [(0, lk_vr t 0), (1, lk_vi (nI (y))), (2, lk_vi (nI (i + 1)))]) dX5_unlike_25 rfl rfl (by decide +kernel) rfl ?_
          refine lk_goto (tgt := 4) dX5_unlike_28 (by decide) ?_
          refine ih (i + 1) _ (by omega) ?_ (by omega)
          simp only [lk_ct]
          simp only [*]
          first | rfl | simp [Int32.not_le.mp (by assumption), Int32.not_lt.mpr (by assumption)] | simp [Int32.not_le.mp (by assumption)] | simp [Int32.not_lt.mpr (by assumption)]
        ·
          refine lk_iincN (a := y) (m := 1) (L' := [(0, lk_vr t 0), (1, lk_vi (nI (y + 1))), (2, lk_vi (nI (i)))]) dX5_unlike_22 rfl rfl (by decide +kernel) rfl ?_
          refine lk_iincN (a := i) (m := 1) (L' := [(0, lk_vr t 0), (1, lk_vi (nI (y + 1))), (2, lk_vi (nI (i + 1)))]) dX5_unlike_25 rfl rfl (by decide +kernel) rfl ?_
          refine lk_goto (tgt := 4) dX5_unlike_28 (by decide) ?_
          refine ih (i + 1) _ (by omega) ?_ (by omega)
          simp only [lk_ct]
          simp only [*]
          first | rfl | simp [Int32.not_le.mp (by assumption), Int32.not_lt.mpr (by assumption)] | simp [Int32.not_le.mp (by assumption)] | simp [Int32.not_lt.mpr (by assumption)]
  exact LP4 119 0 0 (by omega) rfl (by omega)
