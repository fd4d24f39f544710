set_option maxHeartbeats 4000000 in
set_option maxRecDepth 100000 in
theorem tX5_row (l : Launch) (X : lk_G) (d : Nat) (σ : lk_N) (τ : lk_T) (t : Nat) (ht : lk_ko t = 5) (i u : Int32) : lk_Mt l X mX5_row d [lk_vr t 0, lk_vi (i), lk_vi (u)] σ τ (fun rr σ1 τ1 => rr = some (lk_vi (lk_trw (σ t) i u)) ∧ σ1 = σ ∧ τ1 = τ) := by
  refine lk_met (L := [(0, lk_vr t 0), (1, lk_vi (i)), (2, lk_vi (u))]) (by decide +kernel) (Nat.le_of_ble_eq_true rfl) rfl ?_
  obtain ⟨Q, hQ⟩ : ∃ Q : lk_Q, Q = fun rr σ1 τ1 => rr = some (lk_vi (lk_trw (σ t) i u)) ∧ σ1 = σ ∧ τ1 = τ := ⟨_, rfl⟩
  rw [← hQ]
  obtain ⟨R, hR⟩ : ∃ R, R = lk_tfi (σ t) i 118 0 0 := ⟨_, rfl⟩
  refine lk_iconst (v := 0) dX5_row_0 (by decide) ?_
  refine lk_istore_n (L' := [(0, lk_vr t 0), (1, lk_vi (i)), (2, lk_vi (u)), (3, lk_vi 0)]) dX5_row_1 rfl (by decide +kernel) rfl ?_
  refine lk_iconst (v := 0) dX5_row_2 (by decide) ?_
  refine lk_istore (L' := [(0, lk_vr t 0), (1, lk_vi (i)), (2, lk_vi (u)), (3, lk_vi 0), (4, lk_vi 0)]) dX5_row_3 (by decide +kernel) rfl ?_
  have LP5 : ∀ (fu : Nat) (k e : Nat), k ≤ 118 → R = lk_tfi (σ t) i (118 - k) k e → 118 - k < fu → lk_W l X mX5_row d 5 [(0, lk_vr t 0), (1, lk_vi (i)), (2, lk_vi (u)), (3, lk_vi (nI (e))), (4, lk_vi (nI (k)))] [] σ τ Q := by
    intro fu
    induction fu with
    | zero => intro k e hk hI hfu; exact absurd hfu (by omega)
    | succ fu ih =>
      intro k e hk hI hfu
      refine lk_iload dX5_row_5 rfl ?_
      refine lk_aload_n dX5_row_7 rfl rfl ?_
      refine lk_getR (f := 0) dX5_row_8 ht fX5_11 (by decide) (by decide) ?_
      refine lk_alenI (f := 0) (v := 118) dX5_row_11 ht (by decide) rfl rfl ?_
      refine lk_icmp_geN (a := k) (b := 118) (tgt := 59) dX5_row_12 (by decide) (by omega) (by omega) (fun hh1 => ?_) (fun hh1 => ?_)
      ·
        refine lk_ldc dX5_row_59 kX5_21 ?_
        refine lk_iret .int dX5_row_61 rfl rfl ?_
        rw [hQ]
        have hm : 118 - k = 0 := by omega
        rw [hm] at hI
        refine ⟨?_, rfl, rfl⟩
        unfold lk_trw
        rw [← hR, hI]
        rfl
      ·
        refine lk_aload_n dX5_row_15 rfl rfl ?_
        refine lk_getR (f := 0) dX5_row_16 ht fX5_11 (by decide) (by decide) ?_
        refine lk_iload dX5_row_19 rfl ?_
        refine lk_ialdN (f := 0) (i := k) dX5_row_21 ht (by decide) rfl (by omega) (by decide) ?_
        refine lk_if_le (tgt := 53) dX5_row_22 (by decide) (fun hh2 => ?_) (fun hh2 => ?_)
        ·
          refine lk_iincN (a := k) (m := 1) (L' := [(0, lk_vr t 0), (1, lk_vi (i)), (2, lk_vi (u)), (3, lk_vi (nI (e))), (4, lk_vi (nI (k + 1)))]) dX5_row_53 rfl rfl (by decide +kernel) rfl ?_
          refine lk_goto (tgt := 5) dX5_row_56 (by decide) ?_
          have hm : 118 - k = (118 - (k + 1)) + 1 := by omega
          rw [hm] at hI
          simp only [lk_tfi] at hI
          rw [if_neg (Int32.not_lt.mpr (by assumption))] at hI
          exact ih (k + 1) e (by omega) hI (by omega)
        ·
          refine lk_iload_n dX5_row_25 rfl rfl ?_
          refine lk_iload_n dX5_row_26 rfl rfl ?_
          refine lk_icmp_ne (tgt := 50) dX5_row_27 (by decide) (fun hh3 => ?_) (fun hh3 => ?_)
          ·
            refine lk_iincN (a := e) (m := 1) (L' := [(0, lk_vr t 0), (1, lk_vi (i)), (2, lk_vi (u)), (3, lk_vi (nI (e + 1))), (4, lk_vi (nI (k)))]) dX5_row_50 rfl rfl (by decide +kernel) rfl ?_
            refine lk_iincN (a := k) (m := 1) (L' := [(0, lk_vr t 0), (1, lk_vi (i)), (2, lk_vi (u)), (3, lk_vi (nI (e + 1))), (4, lk_vi (nI (k + 1)))]) dX5_row_53 rfl rfl (by decide +kernel) rfl ?_
            refine lk_goto (tgt := 5) dX5_row_56 (by decide) ?_
            have hm : 118 - k = (118 - (k + 1)) + 1 := by omega
            rw [hm] at hI
            simp only [lk_tfi] at hI
            rw [if_pos (Int32.not_le.mp (by assumption)), if_neg (by assumption)] at hI
            exact ih (k + 1) (e + 1) (by omega) hI (by omega)
          ·
            refine lk_iload_n dX5_row_30 rfl rfl ?_
            refine lk_if_eq (tgt := 44) dX5_row_31 (by decide) (fun hh4 => ?_) (fun hh4 => ?_)
            ·
              refine lk_iload dX5_row_44 rfl ?_
              refine lk_bipush (v := (-9)) dX5_row_46 (by decide) ?_
              refine lk_iadd dX5_row_48 ?_
              refine lk_iret .int dX5_row_49 rfl rfl ?_
              rw [hQ]
              have hm : 118 - k = (118 - (k + 1)) + 1 := by omega
              rw [hm] at hI
              simp only [lk_tfi] at hI
              rw [if_pos (Int32.not_le.mp (by assumption)), if_pos (by assumption)] at hI
              refine ⟨?_, rfl, rfl⟩
              unfold lk_trw
              rw [← hR, hI]
              simp only []
              first | rw [if_pos (by assumption)] | rw [if_neg (by assumption)]
            ·
              refine lk_aload_n dX5_row_34 rfl rfl ?_
              refine lk_getR (f := 0) dX5_row_35 ht fX5_11 (by decide) (by decide) ?_
              refine lk_iload dX5_row_38 rfl ?_
              refine lk_ialdN (f := 0) (i := k) dX5_row_40 ht (by decide) rfl (by omega) (by decide) ?_
              refine lk_goto (tgt := 49) dX5_row_41 (by decide) ?_
              refine lk_iret .int dX5_row_49 rfl rfl ?_
              rw [hQ]
              have hm : 118 - k = (118 - (k + 1)) + 1 := by omega
              rw [hm] at hI
              simp only [lk_tfi] at hI
              rw [if_pos (Int32.not_le.mp (by assumption)), if_pos (by assumption)] at hI
              refine ⟨?_, rfl, rfl⟩
              unfold lk_trw
              rw [← hR, hI]
              simp only []
              first | rw [if_pos (by assumption)] | rw [if_neg (by assumption)]
  exact LP5 119 0 0 (by omega) hR (by omega)
