set_option maxHeartbeats 1000000 in
set_option maxRecDepth 100000 in
theorem tX2_letterCount (l : Launch) (X : lk_G) (d : Nat) (σ : lk_N) (τ : lk_T) (f : Nat) (hf : lk_ko f = 2) (n b : Nat) (hn : σ f 5 0 = nI n) (hb : b < n) (hn22 : n ≤ 22) : lk_Mt l X mX2_letterCount (d + 2) [lk_vr f 0, lk_vi (nI (b))] σ τ (fun rr σ1 τ1 => rr = some (lk_vi (nI (lk_lcn (σ f 0 b) 4 0))) ∧ σ1 = σ ∧ τ1 = τ) := by
  refine lk_met (L := [(0, lk_vr f 0), (1, lk_vi (nI (b)))]) (by decide +kernel) (Nat.le_of_ble_eq_true rfl) rfl ?_
  obtain ⟨Q, hQ⟩ : ∃ Q : lk_Q, Q = fun rr σ1 τ1 => rr = some (lk_vi (nI (lk_lcn (σ f 0 b) 4 0))) ∧ σ1 = σ ∧ τ1 = τ := ⟨_, rfl⟩
  rw [← hQ]
  refine lk_iconst (v := 0) dX2_letterCount_0 (by decide) ?_
  refine lk_istore_n (L' := [(0, lk_vr f 0), (1, lk_vi (nI (b))), (2, lk_vi 0)]) dX2_letterCount_1 rfl (by decide +kernel) rfl ?_
  have LP2 : ∀ (fu : Nat) (k : Nat), k ≤ 4 → lk_lcn (σ f 0 b) 4 0 = lk_lcn (σ f 0 b) (4 - k) k → 4 - k < fu → lk_W l X mX2_letterCount (d + 2) 2 [(0, lk_vr f 0), (1, lk_vi (nI (b))), (2, lk_vi (nI (k)))] [] σ τ Q := by
    intro fu
    induction fu with
    | zero => intro k hk hI hfu; exact absurd hfu (by omega)
    | succ fu ih =>
      intro k hk hI hfu
      refine lk_iload_n dX2_letterCount_2 rfl rfl ?_
      refine lk_iconst (v := 4) dX2_letterCount_3 (by decide) ?_
      refine lk_icmp_geN (a := k) (b := 4) (tgt := 24) dX2_letterCount_4 (by decide) (by omega) (by omega) (fun hh1 => ?_) (fun hh1 => ?_)
      ·
        refine lk_iload_n dX2_letterCount_24 rfl rfl ?_
        refine lk_iret .int dX2_letterCount_25 rfl rfl ?_
        rw [hQ]
        by_cases hk4 : k = 4
        · subst hk4
          exact ⟨by rw [hI]; rfl, rfl, rfl⟩
        · rw [show 4 - k = (4 - (k + 1)) + 1 by omega] at hI
          conv at hI => rhs; rw [lk_lcn]
          first | (exfalso; omega) | (rw [if_pos (by assumption)] at hI
                                      exact ⟨by rw [hI], rfl, rfl⟩)
      ·
        refine lk_aload_n dX2_letterCount_7 rfl rfl ?_
        refine lk_iload_n dX2_letterCount_8 rfl rfl ?_
        refine lk_iload_n dX2_letterCount_9 rfl rfl ?_
        refine lk_callV (o := f) (as := [lk_vi (nI (b)), lk_vi (nI (k))]) (S := []) dX2_letterCount_10 rfl vX2_letter rfl lX2_66 hf rfl (Nat.le_of_ble_eq_true rfl) (tX2_letter_in l X d σ τ (f := f) (b := (b)) (k := (k)) (hf := hf) (n := n) (hn := hn) (hb := hb) (hn22 := hn22) (hk := by omega)) ?_
        refine lk_k3 ?_
        refine lk_cast (pc' := 13) (S' := [lk_vi (lk_lett (σ f 0 (b)) (k))]) rfl rfl rfl ?_
        refine lk_bipush (v := (-2)) dX2_letterCount_13 (by decide) ?_
        refine lk_icmp_eq (tgt := 24) dX2_letterCount_15 (by decide) (fun hh2 => ?_) (fun hh2 => ?_)
        ·
          refine lk_iload_n dX2_letterCount_24 rfl rfl ?_
          refine lk_iret .int dX2_letterCount_25 rfl rfl ?_
          rw [hQ]
          by_cases hk4 : k = 4
          · subst hk4
            exact ⟨by rw [hI]; rfl, rfl, rfl⟩
          · rw [show 4 - k = (4 - (k + 1)) + 1 by omega] at hI
            conv at hI => rhs; rw [lk_lcn]
            first | (exfalso; omega) | (rw [if_pos (by assumption)] at hI
                                        exact ⟨by rw [hI], rfl, rfl⟩)
        ·
          refine lk_iincN (a := k) (m := 1) (L' := [(0, lk_vr f 0), (1, lk_vi (nI (b))), (2, lk_vi (nI (k + 1)))]) dX2_letterCount_18 rfl rfl (by decide +kernel) rfl ?_
          refine lk_goto (tgt := 2) dX2_letterCount_21 (by decide) ?_
          rw [show 4 - k = (4 - (k + 1)) + 1 by omega] at hI
          conv at hI => rhs; rw [lk_lcn]
          rw [if_neg (by assumption)] at hI
          exact ih (k + 1) (by omega) hI (by omega)
  exact LP2 5 0 (by omega) rfl (by omega)
