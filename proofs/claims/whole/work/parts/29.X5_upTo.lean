set_option maxHeartbeats 4000000 in
set_option maxRecDepth 100000 in
theorem tX5_upTo (l : Launch) (X : lk_G) (d : Nat) (σ : lk_N) (τ : lk_T) (t : Nat) (ht : lk_ko t = 5) (s : Int32) : lk_Mt l X mX5_upTo d [lk_vr t 0, lk_vi (s)] σ τ (fun rr σ1 τ1 => rr = some (lk_vi (lk_tup (σ t) s)) ∧ σ1 = σ ∧ τ1 = τ) := by
  refine lk_met (L := [(0, lk_vr t 0), (1, lk_vi (s))]) (by decide +kernel) (Nat.le_of_ble_eq_true rfl) rfl ?_
  obtain ⟨Q, hQ⟩ : ∃ Q : lk_Q, Q = fun rr σ1 τ1 => rr = some (lk_vi (lk_tup (σ t) s)) ∧ σ1 = σ ∧ τ1 = τ := ⟨_, rfl⟩
  rw [← hQ]
  refine lk_iconst (v := 0) dX5_upTo_0 (by decide) ?_
  refine lk_istore_n (L' := [(0, lk_vr t 0), (1, lk_vi (s)), (2, lk_vi 0)]) dX5_upTo_1 rfl (by decide +kernel) rfl ?_
  refine lk_iconst (v := 0) dX5_upTo_2 (by decide) ?_
  refine lk_istore_n (L' := [(0, lk_vr t 0), (1, lk_vi (s)), (2, lk_vi 0), (3, lk_vi 0)]) dX5_upTo_3 rfl (by decide +kernel) rfl ?_
  have LP4 : ∀ (fu : Nat) (i : Nat) (y : Int32), i ≤ 118 → y = lk_sm (fun k => if nI k + -9 ≤ s then σ t 0 k else 0) i → 118 - i < fu → lk_W l X mX5_upTo d 4 [(0, lk_vr t 0), (1, lk_vi (s)), (2, lk_vi (y)), (3, lk_vi (nI (i)))] [] σ τ Q := by
    intro fu
    induction fu with
    | zero => intro i y hi hy hfu; exact absurd hfu (by omega)
    | succ fu ih =>
      intro i y hi hy hfu
      refine lk_iload_n dX5_upTo_4 rfl rfl ?_
      refine lk_aload_n dX5_upTo_5 rfl rfl ?_
      refine lk_getR (f := 0) dX5_upTo_6 ht fX5_11 (by decide) (by decide) ?_
      refine lk_alenI (f := 0) (v := 118) dX5_upTo_9 ht (by decide) rfl rfl ?_
      refine lk_icmp_geN (a := i) (b := 118) (tgt := 36) dX5_upTo_10 (by decide) (by omega) (by omega) (fun hh1 => ?_) (fun hh1 => ?_)
      ·
        refine lk_iload_n dX5_upTo_36 rfl rfl ?_
        refine lk_iret .int dX5_upTo_37 rfl rfl ?_
        rw [hQ]
        refine ⟨?_, rfl, rfl⟩
        rw [hy]
        first | (have : i = 118 := by omega
                 subst this; unfold lk_tup; exact Eq.refl _) | (rw [lk_tup, lk_sm_stop _ (show i ≤ 118 by omega) (fun j h1 h2 => if_neg (lk_tup_mono h1 h2 (by assumption)))])
      ·
        refine lk_iload_n dX5_upTo_13 rfl rfl ?_
        refine lk_bipush (v := (-9)) dX5_upTo_14 (by decide) ?_
        refine lk_iadd dX5_upTo_16 ?_
        refine lk_iload_n dX5_upTo_17 rfl rfl ?_
        refine lk_icmp_gt (tgt := 36) dX5_upTo_18 (by decide) (fun hh2 => ?_) (fun hh2 => ?_)
        ·
          refine lk_iload_n dX5_upTo_36 rfl rfl ?_
          refine lk_iret .int dX5_upTo_37 rfl rfl ?_
          rw [hQ]
          refine ⟨?_, rfl, rfl⟩
          rw [hy]
          first | (have : i = 118 := by omega
                   subst this; unfold lk_tup; exact Eq.refl _) | (rw [lk_tup, lk_sm_stop _ (show i ≤ 118 by omega) (fun j h1 h2 => if_neg (lk_tup_mono h1 h2 (by assumption)))])
        ·
          refine lk_iload_n dX5_upTo_21 rfl rfl ?_
          refine lk_aload_n dX5_upTo_22 rfl rfl ?_
          refine lk_getR (f := 0) dX5_upTo_23 ht fX5_11 (by decide) (by decide) ?_
          refine lk_iload_n dX5_upTo_26 rfl rfl ?_
          refine lk_ialdN (f := 0) (i := i) dX5_upTo_27 ht (by decide) rfl (by omega) (by decide) ?_
          refine lk_iadd dX5_upTo_28 ?_
          refine lk_istore_n (L' := [(0, lk_vr t 0), (1, lk_vi (s)), (2, lk_vi ((y) + (σ t 0 (i)))), (3, lk_vi (nI (i)))]) dX5_upTo_29 rfl (by decide +kernel) rfl ?_
          refine lk_iincN (a := i) (m := 1) (L' := [(0, lk_vr t 0), (1, lk_vi (s)), (2, lk_vi ((y) + (σ t 0 (i)))), (3, lk_vi (nI (i + 1)))]) dX5_upTo_30 rfl rfl (by decide +kernel) rfl ?_
          refine lk_goto (tgt := 4) dX5_upTo_33 (by decide) ?_
          refine ih (i + 1) _ (by omega) ?_ (by omega)
          simp only [lk_sm]
          rw [hy, if_pos (Int32.not_lt.mp (by assumption))]
  exact LP4 119 0 0 (by omega) rfl (by omega)
