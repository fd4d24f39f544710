set_option maxHeartbeats 1000000 in
set_option maxRecDepth 100000 in
theorem tX2_countIn (l : Launch) (X : lk_G) (d : Nat) (σ : lk_N) (τ : lk_T) (f : Nat) (hf : lk_ko f = 2) (n : Nat) (w : Int32) (hn : σ f 5 0 = nI n) (hn22 : n ≤ 22) : lk_Mt l X mX2_countIn d [lk_vr f 0, lk_vi (w)] σ τ (fun rr σ1 τ1 => rr = some (lk_vi (nI (lk_ct (fun b => decide (σ f 4 b = w)) n))) ∧ σ1 = σ ∧ τ1 = τ) := by
  refine lk_met (L := [(0, lk_vr f 0), (1, lk_vi (w))]) (by decide +kernel) (Nat.le_of_ble_eq_true rfl) rfl ?_
  obtain ⟨Q, hQ⟩ : ∃ Q : lk_Q, Q = fun rr σ1 τ1 => rr = some (lk_vi (nI (lk_ct (fun b => decide (σ f 4 b = w)) n))) ∧ σ1 = σ ∧ τ1 = τ := ⟨_, rfl⟩
  rw [← hQ]
  refine lk_iconst (v := 0) dX2_countIn_0 (by decide) ?_
  refine lk_istore_n (L' := [(0, lk_vr f 0), (1, lk_vi (w)), (2, lk_vi 0)]) dX2_countIn_1 rfl (by decide +kernel) rfl ?_
  refine lk_iconst (v := 0) dX2_countIn_2 (by decide) ?_
  refine lk_istore_n (L' := [(0, lk_vr f 0), (1, lk_vi (w)), (2, lk_vi 0), (3, lk_vi 0)]) dX2_countIn_3 rfl (by decide +kernel) rfl ?_
  have LP4 : ∀ (fu : Nat) (i y : Nat), i ≤ n → y = lk_ct (fun b => decide (σ f 4 b = w)) i → n - i < fu → lk_W l X mX2_countIn d 4 [(0, lk_vr f 0), (1, lk_vi (w)), (2, lk_vi (nI (y))), (3, lk_vi (nI (i)))] [] σ τ Q := by
    intro fu
    induction fu with
    | zero => intro i y hi hy hfu; exact absurd hfu (by omega)
    | succ fu ih =>
      intro i y hi hy hfu
      refine lk_iload_n dX2_countIn_4 rfl rfl ?_
      refine lk_aload_n dX2_countIn_5 rfl rfl ?_
      refine lk_getIv (v := nI (n)) (f := 5) dX2_countIn_6 hf fX2_28 (by decide) (by decide) hn ?_
      refine lk_icmp_geN (a := i) (b := n) (tgt := 31) dX2_countIn_9 (by decide) (by omega) (by omega) (fun hh1 => ?_) (fun hh1 => ?_)
      ·
        refine lk_iload_n dX2_countIn_31 rfl rfl ?_
        refine lk_iret .int dX2_countIn_32 rfl rfl ?_
        rw [hQ]
        have : i = n := by omega
        subst this
        exact ⟨by rw [hy], rfl, rfl⟩
      ·
        refine lk_aload_n dX2_countIn_12 rfl rfl ?_
        refine lk_getR (f := 4) dX2_countIn_13 hf fX2_25 (by decide) (by decide) ?_
        refine lk_iload_n dX2_countIn_16 rfl rfl ?_
        refine lk_ialdN (f := 4) (i := i) dX2_countIn_17 hf (by decide) rfl (by omega) (by decide) ?_
        refine lk_iload_n dX2_countIn_18 rfl rfl ?_
        refine lk_icmp_ne (tgt := 25) dX2_countIn_19 (by decide) (fun hh2 => ?_) (fun hh2 => ?_)
        ·
          refine lk_iincN (a := i) (m := 1) (L' := [(0, lk_vr f 0), (1, lk_vi (w)), (2, lk_vi (nI (y))), (3, lk_vi (nI (i + 1)))]) dX2_countIn_25 rfl rfl (by decide +kernel) rfl ?_
          refine lk_goto (tgt := 4) dX2_countIn_28 (by decide) ?_
          refine ih (i + 1) _ (by omega) ?_ (by omega)
          simp only [lk_ct]
          simp [*]
        ·
          refine lk_iincN (a := y) (m := 1) (L' := [(0, lk_vr f 0), (1, lk_vi (w)), (2, lk_vi (nI (y + 1))), (3, lk_vi (nI (i)))]) dX2_countIn_22 rfl rfl (by decide +kernel) rfl ?_
          refine lk_iincN (a := i) (m := 1) (L' := [(0, lk_vr f 0), (1, lk_vi (w)), (2, lk_vi (nI (y + 1))), (3, lk_vi (nI (i + 1)))]) dX2_countIn_25 rfl rfl (by decide +kernel) rfl ?_
          refine lk_goto (tgt := 4) dX2_countIn_28 (by decide) ?_
          refine ih (i + 1) _ (by omega) ?_ (by omega)
          simp only [lk_ct]
          simp [*]
  exact LP4 (n + 1) 0 0 (by omega) rfl (by omega)
