set_option maxHeartbeats 1000000 in
set_option maxRecDepth 100000 in
theorem tX2_letter_in (l : Launch) (X : lk_G) (d : Nat) (σ : lk_N) (τ : lk_T) (f : Nat) (hf : lk_ko f = 2) (n b : Nat) (hn : σ f 5 0 = nI n) (hb : b < n) (hn22 : n ≤ 22) (k : Nat) (hk : k < 4) : lk_Mt l X mX2_letter (d + 1) [lk_vr f 0, lk_vi (nI (b)), lk_vi (nI (k))] σ τ (fun rr σ1 τ1 => rr = some (lk_vi (lk_lett (σ f 0 b) k)) ∧ σ1 = σ ∧ τ1 = τ) := by
  refine lk_met (L := [(0, lk_vr f 0), (1, lk_vi (nI (b))), (2, lk_vi (nI (k)))]) (by decide +kernel) (Nat.le_of_ble_eq_true rfl) rfl ?_
  obtain ⟨Q, hQ⟩ : ∃ Q : lk_Q, Q = fun rr σ1 τ1 => rr = some (lk_vi (lk_lett (σ f 0 b) k)) ∧ σ1 = σ ∧ τ1 = τ := ⟨_, rfl⟩
  rw [← hQ]
  refine lk_aload_n dX2_letter_0 rfl rfl ?_
  refine lk_iload_n dX2_letter_1 rfl rfl ?_
  refine lk_callV (o := f) (as := [lk_vi (nI (b))]) (S := []) dX2_letter_2 rfl vX2_has rfl lX2_59 hf rfl (Nat.le_of_ble_eq_true rfl) (tX2_has_in l X d σ τ (f := f) (b := (b)) (hf := hf) (n := n) (hn := hn) (hb := hb) (hn22 := hn22)) ?_
  refine lk_k3 ?_
  refine lk_cast (pc' := 5) (S' := [lk_vi 1]) rfl rfl rfl ?_
  refine lk_if_eq (tgt := 17) dX2_letter_5 (by decide) (fun hh1 => absurd hh1 (by decide)) (fun hh1 => ?_)
  refine lk_iload_n dX2_letter_8 rfl rfl ?_
  refine lk_if_ltN (a := k) (tgt := 17) dX2_letter_9 (by decide) (by omega) (fun hh2 => absurd hh2 (by omega)) (fun hh2 => ?_)
  refine lk_iload_n dX2_letter_12 rfl rfl ?_
  refine lk_iconst (v := 4) dX2_letter_13 (by decide) ?_
  refine lk_icmp_ltN (a := k) (b := 4) (tgt := 20) dX2_letter_14 (by decide) (by omega) (by omega) (fun hh3 => ?_) (fun hh3 => absurd hh3 (by omega))
  refine lk_aload_n dX2_letter_20 rfl rfl ?_
  refine lk_getR (f := 0) dX2_letter_21 hf fX2_11 (by decide) (by decide) ?_
  refine lk_iload_n dX2_letter_24 rfl rfl ?_
  refine lk_ialdN (f := 0) (i := b) dX2_letter_25 hf (by decide) rfl (by omega) (by decide) ?_
  refine lk_istore_n (L' := [(0, lk_vr f 0), (1, lk_vi (nI (b))), (2, lk_vi (nI (k))), (3, lk_vi (σ f 0 (b)))]) dX2_letter_26 rfl (by decide +kernel) rfl ?_
  refine lk_iconst (v := 3) dX2_letter_27 (by decide) ?_
  refine lk_istore (L' := [(0, lk_vr f 0), (1, lk_vi (nI (b))), (2, lk_vi (nI (k))), (3, lk_vi (σ f 0 (b))), (4, lk_vi 3)]) dX2_letter_28 (by decide +kernel) rfl ?_
  have LP30 : ∀ (fu : Nat) (j : Nat), k ≤ j → j ≤ 3 → j < fu → lk_W l X mX2_letter (d + 1) 30 [(0, lk_vr f 0), (1, lk_vi (nI (b))), (2, lk_vi (nI (k))), (3, lk_vi (lk_dv (σ f 0 b) (3 - j))), (4, lk_vi (nI (j)))] [] σ τ Q := by
    intro fu
    induction fu with
    | zero => intro j hj hj3 hfu; exact absurd hfu (by omega)
    | succ fu ih =>
      intro j hj hj3 hfu
      refine lk_iload dX2_letter_30 rfl ?_
      refine lk_iload_n dX2_letter_32 rfl rfl ?_
      refine lk_icmp_leN (a := j) (b := k) (tgt := 47) dX2_letter_33 (by decide) (by omega) (by omega) (fun hh4 => ?_) (fun hh4 => ?_)
      ·
        refine lk_iload_n dX2_letter_47 rfl rfl ?_
        refine lk_bipush (v := 27) dX2_letter_48 (by decide) ?_
        refine lk_irem dX2_letter_50 (by decide) ?_
        refine lk_istore (L' := [(0, lk_vr f 0), (1, lk_vi (nI (b))), (2, lk_vi (nI (k))), (3, lk_vi (lk_dv (σ f 0 b) (3 - j))), (4, lk_vi ((lk_dv (σ f 0 b) (3 - j)) - (lk_dv (σ f 0 b) (3 - j)) / 27 * 27))]) dX2_letter_51 (by decide +kernel) rfl ?_
        refine lk_iload dX2_letter_53 rfl ?_
        refine lk_if_ne (tgt := 63) dX2_letter_55 (by decide) (fun hh5 => ?_) (fun hh5 => ?_)
        ·
          refine lk_bipush (v := 96) dX2_letter_63 (by decide) ?_
          refine lk_iload dX2_letter_65 rfl ?_
          refine lk_iadd dX2_letter_67 ?_
          refine lk_iret .int dX2_letter_68 rfl rfl ?_
          rw [hQ]
          have : j = k := by omega
          subst this
          refine ⟨?_, rfl, rfl⟩
          unfold lk_lett lk_let
          first | rw [if_pos (by assumption)] | rw [if_neg (by assumption)]
        ·
          refine lk_bipush (v := (-2)) dX2_letter_58 (by decide) ?_
          refine lk_goto (tgt := 68) dX2_letter_60 (by decide) ?_
          refine lk_iret .int dX2_letter_68 rfl rfl ?_
          rw [hQ]
          have : j = k := by omega
          subst this
          refine ⟨?_, rfl, rfl⟩
          unfold lk_lett lk_let
          first | rw [if_pos (by assumption)] | rw [if_neg (by assumption)]
      ·
        refine lk_iload_n dX2_letter_36 rfl rfl ?_
        refine lk_bipush (v := 27) dX2_letter_37 (by decide) ?_
        refine lk_idiv dX2_letter_39 (by decide) ?_
        refine lk_istore_n (L' := [(0, lk_vr f 0), (1, lk_vi (nI (b))), (2, lk_vi (nI (k))), (3, lk_vi ((lk_dv (σ f 0 b) (3 - j)) / 27)), (4, lk_vi (nI (j)))]) dX2_letter_40 rfl (by decide +kernel) rfl ?_
        refine lk_idecN (a := j) (m := 1) (L' := [(0, lk_vr f 0), (1, lk_vi (nI (b))), (2, lk_vi (nI (k))), (3, lk_vi ((lk_dv (σ f 0 b) (3 - j)) / 27)), (4, lk_vi (nI (j - 1)))]) dX2_letter_41 rfl rfl (by omega) (by decide +kernel) rfl ?_
        refine lk_goto (tgt := 30) dX2_letter_44 (by decide) ?_
        refine lk_cast (L' := [(0, lk_vr f 0), (1, lk_vi (nI b)), (2, lk_vi (nI k)), (3, lk_vi (lk_dv (σ f 0 b) (3 - (j - 1)))), (4, lk_vi (nI (j - 1)))]) rfl (by rw [show 3 - (j - 1) = (3 - j) + 1 by omega]; rfl) rfl ?_
        exact ih (j - 1) (by omega) (by omega) (by omega)
  exact LP30 4 3 (by omega) (by omega) (by omega)
