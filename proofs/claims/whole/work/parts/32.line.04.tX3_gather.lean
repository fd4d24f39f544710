set_option maxHeartbeats 1000000 in
set_option maxRecDepth 100000 in
theorem tX3_gather (l : Launch) (X : lk_G) (d : Nat) (σ : lk_N) (τ : lk_T) (g : Nat) (hg : lk_ko g = 3) (f : Nat) (hf : lk_ko f = 2) (n : Nat) (r u : Int32) (hn : σ f 5 0 = nI n) (hn22 : n ≤ 22) : lk_Mt l X mX3_gather (d + 3) [lk_vr g 0, lk_vr f 0, lk_vi (r), lk_vi (u)] σ τ (fun rr σ1 τ1 => rr = none ∧ τ1 = τ ∧ ∃ W : lk_O, σ1 = lk_so σ g W ∧ W 1 0 = nI (lk_gat (σ f) r u n).1 ∧ ∀ i, i < (lk_gat (σ f) r u n).1 → W 0 i = nI ((lk_gat (σ f) r u n).2 i)) := by
  refine lk_met (L := [(0, lk_vr g 0), (1, lk_vr f 0), (2, lk_vi (r)), (3, lk_vi (u))]) (by decide +kernel) (Nat.le_of_ble_eq_true rfl) rfl ?_
  obtain ⟨Q, hQ⟩ : ∃ Q : lk_Q, Q = fun rr σ1 τ1 => rr = none ∧ τ1 = τ ∧ ∃ W : lk_O, σ1 = lk_so σ g W ∧ W 1 0 = nI (lk_gat (σ f) r u n).1 ∧ ∀ i, i < (lk_gat (σ f) r u n).1 → W 0 i = nI ((lk_gat (σ f) r u n).2 i) := ⟨_, rfl⟩
  rw [← hQ]
  have hfg : ¬ f = g := by intro e; rw [e, hg] at hf; cases hf
  refine lk_aload_n dX3_gather_0 rfl rfl ?_
  refine lk_iconst (v := 0) dX3_gather_1 (by decide) ?_
  refine lk_putI (f := 1) dX3_gather_2 hg fX3_17 (by decide) (by decide) ?_
  refine lk_iconst (v := 0) dX3_gather_5 (by decide) ?_
  refine lk_istore (L' := [(0, lk_vr g 0), (1, lk_vr f 0), (2, lk_vi (r)), (3, lk_vi (u)), (4, lk_vi 0)]) dX3_gather_6 (by decide +kernel) rfl ?_
  have LP8 : ∀ (fu : Nat) (m : Nat) (W : lk_O), m ≤ n → W 1 0 = nI (lk_gat (σ f) r u m).1 → (∀ i, i < (lk_gat (σ f) r u m).1 → W 0 i = nI ((lk_gat (σ f) r u m).2 i)) → n - m < fu → lk_W l X mX3_gather (d + 3) 8 [(0, lk_vr g 0), (1, lk_vr f 0), (2, lk_vi (r)), (3, lk_vi (u)), (4, lk_vi (nI (m)))] [] (lk_so σ g W) τ Q := by
    intro fu
    induction fu with
    | zero => intro m W hm hWc hWq hfu; exact absurd hfu (by omega)
    | succ fu ih =>
      intro m W hm hWc hWq hfu
      refine lk_iload dX3_gather_8 rfl ?_
      refine lk_aload_n dX3_gather_10 rfl rfl ?_
      refine lk_getIv (v := nI (n)) (f := 5) dX3_gather_11 hf fX3_21 (by decide) (by decide) (by rw [lk_so_ne hfg]; exact hn) ?_
      refine lk_icmp_geN (a := m) (b := n) (tgt := 52) dX3_gather_14 (by decide) (by omega) (by omega) (fun hh1 => ?_) (fun hh1 => ?_)
      ·
        refine lk_vret dX3_gather_52 rfl ?_
        rw [hQ]
        have : m = n := by omega
        subst this
        exact ⟨rfl, rfl, W, rfl, hWc, hWq⟩
      ·
        refine lk_aload_n dX3_gather_17 rfl rfl ?_
        refine lk_getR (f := 4) dX3_gather_18 hf fX3_22 (by decide) (by decide) ?_
        refine lk_iload dX3_gather_21 rfl ?_
        refine lk_ialdN (f := 4) (i := m) dX3_gather_23 hf (by decide) rfl (by omega) (by decide) ?_
        refine lk_eqtop (y := (σ f 4 m)) (by rw [lk_so_ne hfg]) ?_
        refine lk_iload_n dX3_gather_24 rfl rfl ?_
        refine lk_icmp_ne (tgt := 46) dX3_gather_25 (by decide) (fun hh2 => ?_) (fun hh2 => ?_)
        ·
          refine lk_iincN (a := m) (m := 1) (L' := [(0, lk_vr g 0), (1, lk_vr f 0), (2, lk_vi (r)), (3, lk_vi (u)), (4, lk_vi (nI (m + 1)))]) dX3_gather_46 rfl rfl (by decide +kernel) rfl ?_
          refine lk_goto (tgt := 8) dX3_gather_49 (by decide) ?_
          have hs : lk_gat (σ f) r u (m + 1) = lk_gat (σ f) r u m := by
            rw [lk_gat, if_neg (by rintro ⟨z1, z2⟩; contradiction)]
          exact ih (m + 1) W (by omega) (by rw [hs]; exact hWc) (by rw [hs]; exact hWq) (by omega)
        ·
          refine lk_aload_n dX3_gather_28 rfl rfl ?_
          refine lk_getR (f := 3) dX3_gather_29 hf fX3_25 (by decide) (by decide) ?_
          refine lk_iload dX3_gather_32 rfl ?_
          refine lk_zaldN (f := 3) (i := m) dX3_gather_34 hf (by decide) rfl (by omega) (by decide) ?_
          refine lk_eqtop (y := (σ f 3 m)) (by rw [lk_so_ne hfg]) ?_
          refine lk_iload_n dX3_gather_35 rfl rfl ?_
          refine lk_icmp_ne (tgt := 46) dX3_gather_36 (by decide) (fun hh3 => ?_) (fun hh3 => ?_)
          ·
            refine lk_iincN (a := m) (m := 1) (L' := [(0, lk_vr g 0), (1, lk_vr f 0), (2, lk_vi (r)), (3, lk_vi (u)), (4, lk_vi (nI (m + 1)))]) dX3_gather_46 rfl rfl (by decide +kernel) rfl ?_
            refine lk_goto (tgt := 8) dX3_gather_49 (by decide) ?_
            have hs : lk_gat (σ f) r u (m + 1) = lk_gat (σ f) r u m := by
              rw [lk_gat, if_neg (by rintro ⟨z1, z2⟩; contradiction)]
            exact ih (m + 1) W (by omega) (by rw [hs]; exact hWc) (by rw [hs]; exact hWq) (by omega)
          ·
            refine lk_aload_n dX3_gather_39 rfl rfl ?_
            refine lk_aload_n dX3_gather_40 rfl rfl ?_
            refine lk_iload dX3_gather_41 rfl ?_
            refine lk_callV (o := g) (as := [lk_vr f 0, lk_vi (nI (m))]) (S := []) dX3_gather_43 rfl vX3_join rfl lX3_29 hg rfl (Nat.le_of_ble_eq_true rfl) (tX3_join l X d (lk_so σ g W) τ (g := g) (f := f) (b := (m)) (hg := hg) (hf := hf) (n := n) (c := (lk_gat (σ f) r u m).1) (q := (lk_gat (σ f) r u m).2) (hn := by rw [lk_so_ne hfg]; exact hn) (hn22 := hn22) (hb := by omega) (hc := by rw [lk_so_eq]; exact hWc) (hc22 := by have := lk_gat_le (σ f) r u m; omega) (hq := by rw [lk_so_eq]; exact hWq) (hqn := fun i h => Nat.lt_of_lt_of_le (lk_gat_lt (σ f) r u m i h) (by omega))) ?_
            refine lk_k4 (fun W2 hW2 => ?_)
            rw [lk_so_so]
            refine lk_cast (pc' := 46) (S' := []) rfl rfl rfl ?_
            refine lk_iincN (a := m) (m := 1) (L' := [(0, lk_vr g 0), (1, lk_vr f 0), (2, lk_vi (r)), (3, lk_vi (u)), (4, lk_vi (nI (m + 1)))]) dX3_gather_46 rfl rfl (by decide +kernel) rfl ?_
            refine lk_goto (tgt := 8) dX3_gather_49 (by decide) ?_
            have hs : lk_gat (σ f) r u (m + 1) = ((lk_gat (σ f) r u m).1 + 1, lk_sft (σ f 2) m (lk_gat (σ f) r u m).1 (lk_gat (σ f) r u m).2) := by
              rw [lk_gat, if_pos ⟨by assumption, by assumption⟩]
            refine ih (m + 1) W2 (by omega) ?_ ?_ (by omega)
            · rw [hs]; exact hW2.1
            · rw [hs]
              have hfx : (lk_so σ g W) f = σ f := lk_so_ne hfg
              rw [hfx] at hW2
              exact hW2.2
  rw [lk_up_so]
  exact LP8 (n + 1) 0 _ (Nat.zero_le _) (by simp [lk_ou, lk_gat, lk_nI0]) (fun i h => absurd h (Nat.not_lt_zero i)) (by omega)
