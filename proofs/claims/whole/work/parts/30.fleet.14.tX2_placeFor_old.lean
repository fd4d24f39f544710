set_option maxHeartbeats 1000000 in
set_option maxRecDepth 100000 in
theorem tX2_placeFor_old (l : Launch) (X : lk_G) (d : Nat) (σ : lk_N) (τ : lk_T) (f : Nat) (hf : lk_ko f = 2) (n : Nat) (w : Int32) (hn : σ f 5 0 = nI n) (hn22 : n < 22) (h01 : ∀ i, i < 22 → σ f 3 i = 0 ∨ σ f 3 i = 1) (p : Nat) (hp : p = lk_fpl (σ f) w n 0) (hpn : p < n) (hpw : σ f 0 p = w) : lk_Mt l X mX2_placeFor (d + 1) [lk_vr f 0, lk_vi (w)] σ τ (fun rr σ1 τ1 => rr = some (lk_vi (nI (p))) ∧ σ1 = σ ∧ τ1 = τ) := by
  refine lk_met (L := [(0, lk_vr f 0), (1, lk_vi (w))]) (by decide +kernel) (Nat.le_of_ble_eq_true rfl) rfl ?_
  obtain ⟨Q, hQ⟩ : ∃ Q : lk_Q, Q = fun rr σ1 τ1 => rr = some (lk_vi (nI (p))) ∧ σ1 = σ ∧ τ1 = τ := ⟨_, rfl⟩
  rw [← hQ]
  refine lk_iconst (v := 0) dX2_placeFor_0 (by decide) ?_
  refine lk_istore_n (L' := [(0, lk_vr f 0), (1, lk_vi (w)), (2, lk_vi 0)]) dX2_placeFor_1 rfl (by decide +kernel) rfl ?_
  have LP2 : ∀ (fu : Nat) (b : Nat), b ≤ n → p = lk_fpl (σ f) w (n - b) b → n - b < fu → lk_W l X mX2_placeFor (d + 1) 2 [(0, lk_vr f 0), (1, lk_vi (w)), (2, lk_vi (nI (b)))] [] σ τ Q := by
    intro fu
    induction fu with
    | zero => intro b hb hI hfu; exact absurd hfu (by omega)
    | succ fu ih =>
      intro b hb hI hfu
      refine lk_iload_n dX2_placeFor_2 rfl rfl ?_
      refine lk_aload_n dX2_placeFor_3 rfl rfl ?_
      refine lk_getIv (v := nI (n)) (f := 5) dX2_placeFor_4 hf fX2_28 (by decide) (by decide) hn ?_
      refine lk_icmp_geN (a := b) (b := n) (tgt := 26) dX2_placeFor_7 (by decide) (by omega) (by omega) (fun hh1 => ?_) (fun hh1 => ?_)
      ·
        have hpb : p = b := by
          by_cases e : b = n
          · rw [e, Nat.sub_self] at hI; rw [hI, e]; rfl
          · rw [show n - b = (n - (b + 1)) + 1 by omega, lk_fpl, if_neg (Int32.not_lt.mpr (by first | assumption | (exfalso; omega)))] at hI; exact hI
        refine lk_cast (L' := [(0, lk_vr f 0), (1, lk_vi (w)), (2, lk_vi (nI (p)))]) rfl (by rw [hpb]) rfl ?_
        refine lk_iload_n dX2_placeFor_26 rfl rfl ?_
        refine lk_aload_n dX2_placeFor_27 rfl rfl ?_
        refine lk_getIv (v := nI (n)) (f := 5) dX2_placeFor_28 hf fX2_28 (by decide) (by decide) hn ?_
        refine lk_icmp_geN (a := p) (b := n) (tgt := 46) dX2_placeFor_31 (by decide) (by omega) (by omega) (fun hh2 => absurd hh2 (by omega)) (fun hh2 => ?_)
        refine lk_aload_n dX2_placeFor_34 rfl rfl ?_
        refine lk_getR (f := 0) dX2_placeFor_35 hf fX2_11 (by decide) (by decide) ?_
        refine lk_iload_n dX2_placeFor_38 rfl rfl ?_
        refine lk_ialdN (f := 0) (i := p) dX2_placeFor_39 hf (by decide) rfl (by omega) (by decide) ?_
        refine lk_iload_n dX2_placeFor_40 rfl rfl ?_
        refine lk_icmp_ne (tgt := 46) dX2_placeFor_41 (by decide) (fun hh3 => absurd hh3 (by simp [hpw])) (fun hh3 => ?_)
        refine lk_iload_n dX2_placeFor_44 rfl rfl ?_
        refine lk_iret .int dX2_placeFor_45 rfl rfl ?_
        rw [hQ]
        exact ⟨by first | rfl | (simp [*]; done) | (simp_all; done) | grind, by first | rfl | (simp [*]; done), rfl⟩
      ·
        refine lk_aload_n dX2_placeFor_10 rfl rfl ?_
        refine lk_getR (f := 0) dX2_placeFor_11 hf fX2_11 (by decide) (by decide) ?_
        refine lk_iload_n dX2_placeFor_14 rfl rfl ?_
        refine lk_ialdN (f := 0) (i := b) dX2_placeFor_15 hf (by decide) rfl (by omega) (by decide) ?_
        refine lk_iload_n dX2_placeFor_16 rfl rfl ?_
        refine lk_icmp_ge (tgt := 26) dX2_placeFor_17 (by decide) (fun hh4 => ?_) (fun hh4 => ?_)
        ·
          have hpb : p = b := by
            by_cases e : b = n
            · rw [e, Nat.sub_self] at hI; rw [hI, e]; rfl
            · rw [show n - b = (n - (b + 1)) + 1 by omega, lk_fpl, if_neg (Int32.not_lt.mpr (by first | assumption | (exfalso; omega)))] at hI; exact hI
          refine lk_cast (L' := [(0, lk_vr f 0), (1, lk_vi (w)), (2, lk_vi (nI (p)))]) rfl (by rw [hpb]) rfl ?_
          refine lk_iload_n dX2_placeFor_26 rfl rfl ?_
          refine lk_aload_n dX2_placeFor_27 rfl rfl ?_
          refine lk_getIv (v := nI (n)) (f := 5) dX2_placeFor_28 hf fX2_28 (by decide) (by decide) hn ?_
          refine lk_icmp_geN (a := p) (b := n) (tgt := 46) dX2_placeFor_31 (by decide) (by omega) (by omega) (fun hh5 => absurd hh5 (by omega)) (fun hh5 => ?_)
          refine lk_aload_n dX2_placeFor_34 rfl rfl ?_
          refine lk_getR (f := 0) dX2_placeFor_35 hf fX2_11 (by decide) (by decide) ?_
          refine lk_iload_n dX2_placeFor_38 rfl rfl ?_
          refine lk_ialdN (f := 0) (i := p) dX2_placeFor_39 hf (by decide) rfl (by omega) (by decide) ?_
          refine lk_iload_n dX2_placeFor_40 rfl rfl ?_
          refine lk_icmp_ne (tgt := 46) dX2_placeFor_41 (by decide) (fun hh6 => absurd hh6 (by simp [hpw])) (fun hh6 => ?_)
          refine lk_iload_n dX2_placeFor_44 rfl rfl ?_
          refine lk_iret .int dX2_placeFor_45 rfl rfl ?_
          rw [hQ]
          exact ⟨by first | rfl | (simp [*]; done) | (simp_all; done) | grind, by first | rfl | (simp [*]; done), rfl⟩
        ·
          refine lk_iincN (a := b) (m := 1) (L' := [(0, lk_vr f 0), (1, lk_vi (w)), (2, lk_vi (nI (b + 1)))]) dX2_placeFor_20 rfl rfl (by decide +kernel) rfl ?_
          refine lk_goto (tgt := 2) dX2_placeFor_23 (by decide) ?_
          rw [show n - b = (n - (b + 1)) + 1 by omega, lk_fpl, if_pos (Int32.not_le.mp (by assumption))] at hI
          exact ih (b + 1) (by omega) hI (by omega)
  exact LP2 (n + 1) 0 (by omega) hp (by omega)
