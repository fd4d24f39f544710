theorem lk_yS_s2 (σ : lk_N) (c : Nat) (V T : lk_O) (j : lk_J) : lk_yS (lk_s2 σ c V T) c j = lk_yS σ c j := by
  obtain ⟨_ | ⟨k, q⟩, W, U⟩ := j
  · exact lk_s2_s2 σ c V T W U
  · show lk_so (lk_s2 (lk_s2 σ c V T) c (lk_ou W 12 0 1) U) (c + 2) _ = lk_so (lk_s2 σ c (lk_ou W 12 0 1) U) (c + 2) _
    rw [lk_s2_s2, lk_s2_ne (by omega) (by omega)]
theorem lk_s2_t0 (σ : lk_N) (c : Nat) (W : lk_O) : lk_s2 σ c W (σ (c + 1)) = lk_so σ c W := by
  have h : σ (c + 1) = (lk_so σ c W) (c + 1) := (lk_so_ne (by omega)).symm
  show lk_so (lk_so σ c W) (c + 1) (σ (c + 1)) = _
  conv => lhs; rw [h]
  exact lk_so_self _ _
theorem lk_lag_cok {V : lk_O} {n : Nat} (h : lk_cok V n) : lk_cok (lk_ou (lk_lag V n) 12 0 0) n := by
  refine ⟨?_, h.2.1, h.2.2.1, fun k hk => ?_⟩
  · have := h.1; simp [lk_ou, lk_lag]; exact this
  · have := h.2.2.2 k hk
    unfold lk_lok at this ⊢
    simp [lk_ou, lk_lag]
    exact this
theorem lk_trv_cok {up : Bool} {z : Int32} {n : Nat} (hz : 0 ≤ z.toInt) (hz9 : z.toInt ≤ 9) : ∀ (ks : List Nat) (V T : lk_O), (∀ k ∈ ks, k < n) → lk_cok V n → lk_cok (lk_trv up z ks V T).2.2.1 n ∧ (lk_trv up z ks V T).2.2.1 12 0 = V 12 0
  | [], V, T, _, h => ⟨h, rfl⟩
  | k :: ks, V, T, hk, h => by
    unfold lk_trv
    cases hp : lk_pas V k up z with
    | inr q => exact ⟨h, rfl⟩
    | inl V' =>
      have hkn := hk k List.mem_cons_self
      have ih := lk_trv_cok (up := up) hz hz9 ks V' (lk_tad T (V 6 (k + 1) - V' 6 (k + 1))) (fun a ha => hk a (List.mem_cons_of_mem _ ha)) (lk_pas_cok hp hkn h hz hz9)
      have hn := (lk_pas_ok hp (h.2.2.2 k (Nat.lt_of_lt_of_le hkn h.2.2.1)) hz hz9).1
      exact ⟨ih.1, by rw [ih.2]; exact hn 12 0 (by simp) (by simp) (by simp)⟩
theorem lk_lks_lt {up : Bool} {a n : Nat} (ha : a ≤ n) : ∀ k ∈ lk_lks up a n, k < n := by
  intro k hk
  cases up with
  | true => have := List.mem_range'_1.mp hk; omega
  | false =>
    have h2 : k ∈ List.range a := List.mem_reverse.mp hk
    have := List.mem_range.mp h2
    omega
/-- a day on its way: a boats up and b down are gone, i passages done; m boats are left -/
def lk_dfi (n u d m a b i : Nat) (j : lk_J) : Nat × lk_J := match j.1 with
  | none => ((lk_dyl n u d m a b j.2.1 j.2.2).1 + i, (lk_dyl n u d m a b j.2.1 j.2.2).2)
  | some _ => (i, j)
theorem lk_dfi_0 (n u d a b i : Nat) (j : lk_J) : lk_dfi n u d 0 a b i j = (i, j) := by
  obtain ⟨_ | q, V, T⟩ := j
  · simp [lk_dfi, lk_dyl]
  · rfl
theorem lk_dfi_b (n u d m a b i : Nat) (q : Nat × Int32 × Nat × Int32) (V T : lk_O) : lk_dfi n u d m a b i (some q, V, T) = (i, (some q, V, T)) := rfl
theorem lk_dfi_u (n u d m a b i : Nat) (V T : lk_O) (hw : lk_way u d a b = true) : lk_dfi n u d (m + 1) a b i (none, V, T) = lk_dfi n u d m (a + 1) b (i + (lk_trv true 0 (lk_lks true 0 n) V T).1) (lk_trv true 0 (lk_lks true 0 n) V T).2 := by
  simp only [lk_dfi, lk_dyl, hw, if_true]
  rcases lk_trv true 0 (lk_lks true 0 n) V T with ⟨i', _ | q, V', T'⟩
  · simp; omega
  · simp; omega
theorem lk_dfi_d (n u d m a b i : Nat) (V T : lk_O) (hw : lk_way u d a b = false) : lk_dfi n u d (m + 1) a b i (none, V, T) = lk_dfi n u d m a (b + 1) (i + (lk_trv false 0 (lk_lks false n n) V T).1) (lk_trv false 0 (lk_lks false n n) V T).2 := by
  simp only [lk_dfi, lk_dyl, hw]
  simp only [Bool.false_eq_true, if_false]
  rcases lk_trv false 0 (lk_lks false n n) V T with ⟨i', _ | q, V', T'⟩
  · simp; omega
  · simp; omega
set_option maxHeartbeats 4000000 in
set_option maxRecDepth 100000 in
theorem tX0_wholeDay (l : Launch) (X : lk_G) (d : Nat) (σ : lk_N) (τ : lk_T) (c : Nat) (hc : lk_ko c = 0) (n u e : Nat) (hV : lk_cok (σ c) n) (hu : u ≤ 4) (he : e ≤ 4) : lk_Mt l X mX0_wholeDay (d + 4) [lk_vr c 0, lk_vi (nI (u)), lk_vi (nI (e))] σ τ (fun rr σ1 τ1 => rr = some (lk_vi (nI ((lk_day (σ c) (σ (c + 1)) n u e).1))) ∧ σ1 = lk_yS σ c (lk_day (σ c) (σ (c + 1)) n u e).2 ∧ τ1 = τ) := by
  refine lk_met (L := [(0, lk_vr c 0), (1, lk_vi (nI (u))), (2, lk_vi (nI (e)))]) (by decide +kernel) (Nat.le_of_ble_eq_true rfl) rfl ?_
  obtain ⟨Q, hQ⟩ : ∃ Q : lk_Q, Q = fun rr σ1 τ1 => rr = some (lk_vi (nI ((lk_day (σ c) (σ (c + 1)) n u e).1))) ∧ σ1 = lk_yS σ c (lk_day (σ c) (σ (c + 1)) n u e).2 ∧ τ1 = τ := ⟨_, rfl⟩
  rw [← hQ]
  refine lk_aload_n dX0_wholeDay_0 rfl rfl ?_
  refine lk_callV (o := c) (as := []) (S := []) dX0_wholeDay_1 rfl vX0_loseAndGain rfl lX0_122 hc rfl (Nat.le_of_ble_eq_true rfl) (tX0_loseAndGain l X (d + 2) σ τ (c := c) (hc := hc) (n := n) (hn := hV.1) (hn6 := hV.2.2.1)) ?_
  refine lk_k3 ?_
  refine lk_cast (pc' := 4) (S' := []) rfl rfl rfl ?_
  refine lk_aload_n dX0_wholeDay_4 rfl rfl ?_
  refine lk_iconst (v := 0) dX0_wholeDay_5 (by decide) ?_
  refine lk_putZ (f := 12) dX0_wholeDay_6 hc fX0_119 (by decide) (by decide) (by decide) ?_
  refine lk_iconst (v := 0) dX0_wholeDay_9 (by decide) ?_
  refine lk_istore_n (L' := [(0, lk_vr c 0), (1, lk_vi (nI (u))), (2, lk_vi (nI (e))), (3, lk_vi 0)]) dX0_wholeDay_10 rfl (by decide +kernel) rfl ?_
  refine lk_iconst (v := 0) dX0_wholeDay_11 (by decide) ?_
  refine lk_istore (L' := [(0, lk_vr c 0), (1, lk_vi (nI (u))), (2, lk_vi (nI (e))), (3, lk_vi 0), (4, lk_vi 0)]) dX0_wholeDay_12 (by decide +kernel) rfl ?_
  refine lk_iconst (v := 0) dX0_wholeDay_14 (by decide) ?_
  refine lk_istore (L' := [(0, lk_vr c 0), (1, lk_vi (nI (u))), (2, lk_vi (nI (e))), (3, lk_vi 0), (4, lk_vi 0), (5, lk_vi 0)]) dX0_wholeDay_15 (by decide +kernel) rfl ?_
  have LP17 : ∀ (fu : Nat) (a b i : Nat) (j : lk_J), a ≤ u → b ≤ e → lk_cok j.2.1 n → j.2.1 12 0 = 0 → lk_day (σ c) (σ (c + 1)) n u e = lk_dfi n u e (u + e - a - b) a b i j → u + e - a - b < fu → lk_W l X mX0_wholeDay (d + 4) 17 [(0, lk_vr c 0), (1, lk_vi (nI (u))), (2, lk_vi (nI (e))), (3, lk_vi (nI (i))), (4, lk_vi (nI (a))), (5, lk_vi (nI (b)))] [] (lk_yS σ c j) τ Q := by
    intro fu
    induction fu with
    | zero => intro a b i j ha hb hW hv12 hI hfu; exact absurd hfu (by omega)
    | succ fu ih =>
      intro a b i j ha hb hW hv12 hI hfu
      refine lk_iload dX0_wholeDay_17 rfl ?_
      refine lk_iload dX0_wholeDay_19 rfl ?_
      refine lk_iaddN (a := a) (b := b) dX0_wholeDay_21 ?_
      refine lk_iload_n dX0_wholeDay_22 rfl rfl ?_
      refine lk_iload_n dX0_wholeDay_23 rfl rfl ?_
      refine lk_iaddN (a := u) (b := e) dX0_wholeDay_24 ?_
      refine lk_icmp_geN (a := a + b) (b := u + e) (tgt := 101) dX0_wholeDay_25 (by decide) (by omega) (by omega) (fun hh1 => ?_) (fun hh1 => ?_)
      ·
        refine lk_iload_n dX0_wholeDay_101 rfl rfl ?_
        refine lk_iret .int dX0_wholeDay_102 rfl rfl ?_
        rw [hQ]
        have e0 : u + e - a - b = 0 := by omega
        rw [e0, lk_dfi_0] at hI
        rw [hI]
        exact ⟨rfl, rfl, rfl⟩
      ·
        rcases j with ⟨_ | ⟨kq, q⟩, V, T⟩
        ·
          refine lk_sg (σ' := lk_s2 σ c V T) rfl ?_
          refine lk_aload_n dX0_wholeDay_28 rfl rfl ?_
          refine lk_getIv (v := 0) (f := 12) dX0_wholeDay_29 hc fX0_119 (by decide) (by decide) (by rw [lk_s2_c]; exact hv12) ?_
          refine lk_if_ne (tgt := 101) dX0_wholeDay_32 (by decide) (fun hh2 => absurd hh2 (by decide)) (fun hh2 => ?_)
          refine lk_iload dX0_wholeDay_35 rfl ?_
          refine lk_iload_n dX0_wholeDay_37 rfl rfl ?_
          refine lk_icmp_geN (a := a) (b := u) (tgt := 58) dX0_wholeDay_38 (by decide) (by omega) (by omega) (fun hh3 => ?_) (fun hh3 => ?_)
          ·
            refine lk_iconst (v := 0) dX0_wholeDay_58 (by decide) ?_
            refine lk_istore (L' := [(0, lk_vr c 0), (1, lk_vi (nI (u))), (2, lk_vi (nI (e))), (3, lk_vi (nI (i))), (4, lk_vi (nI (a))), (5, lk_vi (nI (b))), (6, lk_vi 0)]) dX0_wholeDay_59 (by decide +kernel) rfl ?_
            refine lk_iload_n dX0_wholeDay_61 rfl rfl ?_
            refine lk_aload_n dX0_wholeDay_62 rfl rfl ?_
            refine lk_iload dX0_wholeDay_63 rfl ?_
            refine lk_if_eq (tgt := 72) dX0_wholeDay_65 (by decide) (fun hh4 => ?_) (fun hh4 => absurd hh4 (by decide))
            refine lk_aload_n dX0_wholeDay_72 rfl rfl ?_
            refine lk_getIv (v := nI (n)) (f := 0) dX0_wholeDay_73 hc fX0_51 (by decide) (by decide) (by rw [lk_s2_c]; exact hW.1) ?_
            refine lk_iload dX0_wholeDay_76 rfl ?_
            refine lk_iconst (v := 0) dX0_wholeDay_78 (by decide) ?_
            refine lk_callV (o := c) (as := [lk_vi (nI (n)), lk_vi 0, lk_vi 0]) (S := [lk_vi (nI (i))]) dX0_wholeDay_79 rfl vX0_travel rfl lX0_125 hc rfl (Nat.le_of_ble_eq_true rfl) (tX0_travel_dn l X d (lk_s2 σ c V T) τ (c := c) (a := (n)) (z := 0) (hc := hc) (n := n) (hV := by rw [lk_s2_c]; exact hW) (hz := by decide) (hz9 := by decide) (ha := Nat.le_refl _)) ?_
            refine lk_k3 ?_
            refine lk_cast (pc' := 82) (S' := [lk_vi (nI ((lk_trv false 0 (lk_lks false (n) n) ((lk_s2 σ c V T) c) ((lk_s2 σ c V T) (c + 1))).1)), lk_vi (nI (i))]) rfl rfl rfl ?_
            refine lk_iaddN (a := i) (b := (lk_trv false 0 (lk_lks false (n) n) ((lk_s2 σ c V T) c) ((lk_s2 σ c V T) (c + 1))).1) dX0_wholeDay_82 ?_
            refine lk_istore_n (L' := [(0, lk_vr c 0), (1, lk_vi (nI (u))), (2, lk_vi (nI (e))), (3, lk_vi (nI (i + (lk_trv false 0 (lk_lks false (n) n) ((lk_s2 σ c V T) c) ((lk_s2 σ c V T) (c + 1))).1))), (4, lk_vi (nI (a))), (5, lk_vi (nI (b))), (6, lk_vi 0)]) dX0_wholeDay_83 rfl (by decide +kernel) rfl ?_
            refine lk_iload dX0_wholeDay_84 rfl ?_
            refine lk_if_eq (tgt := 95) dX0_wholeDay_86 (by decide) (fun hh5 => ?_) (fun hh5 => absurd hh5 (by decide))
            refine lk_iincN (a := b) (m := 1) (L' := [(0, lk_vr c 0), (1, lk_vi (nI (u))), (2, lk_vi (nI (e))), (3, lk_vi (nI (i + (lk_trv false 0 (lk_lks false (n) n) ((lk_s2 σ c V T) c) ((lk_s2 σ c V T) (c + 1))).1))), (4, lk_vi (nI (a))), (5, lk_vi (nI (b + 1))), (6, lk_vi 0)]) dX0_wholeDay_95 rfl rfl (by decide +kernel) rfl ?_
            refine lk_goto (tgt := 17) dX0_wholeDay_98 (by decide) ?_
            refine lk_sub (L' := [(0, lk_vr c 0), (1, lk_vi (nI (u))), (2, lk_vi (nI (e))), (3, lk_vi (nI (i + (lk_trv false 0 (lk_lks false (n) n) ((lk_s2 σ c V T) c) ((lk_s2 σ c V T) (c + 1))).1))), (4, lk_vi (nI (a))), (5, lk_vi (nI (b + 1)))]) [0, 1, 2, 3, 4, 5] rfl ?_
            have hw : lk_way u e a b = false := by simp [lk_way]; omega
            have hm : u + e - a - b = (u + e - a - (b + 1)) + 1 := by omega
            rw [hm, lk_dfi_d n u e _ a b i V T hw] at hI
            have hq := lk_trv_cok (up := false) (z := 0) (by decide) (by decide) (lk_lks false n n) V T (lk_lks_lt (Nat.le_refl _)) hW
            simp only [lk_s2_c, lk_s2_t, lk_yS_s2]
            exact ih a (b + 1) (i + (lk_trv false 0 (lk_lks false n n) V T).1) (lk_trv false 0 (lk_lks false n n) V T).2 (by omega) (by omega) hq.1 (by rw [hq.2]; exact hv12) hI (by omega)
          ·
            refine lk_iload dX0_wholeDay_41 rfl ?_
            refine lk_iload dX0_wholeDay_43 rfl ?_
            refine lk_icmp_leN (a := a) (b := b) (tgt := 54) dX0_wholeDay_45 (by decide) (by omega) (by omega) (fun hh6 => ?_) (fun hh6 => ?_)
            ·
              refine lk_iconst (v := 1) dX0_wholeDay_54 (by decide) ?_
              refine lk_goto (tgt := 59) dX0_wholeDay_55 (by decide) ?_
              refine lk_istore (L' := [(0, lk_vr c 0), (1, lk_vi (nI (u))), (2, lk_vi (nI (e))), (3, lk_vi (nI (i))), (4, lk_vi (nI (a))), (5, lk_vi (nI (b))), (6, lk_vi 1)]) dX0_wholeDay_59 (by decide +kernel) rfl ?_
              refine lk_iload_n dX0_wholeDay_61 rfl rfl ?_
              refine lk_aload_n dX0_wholeDay_62 rfl rfl ?_
              refine lk_iload dX0_wholeDay_63 rfl ?_
              refine lk_if_eq (tgt := 72) dX0_wholeDay_65 (by decide) (fun hh7 => absurd hh7 (by decide)) (fun hh7 => ?_)
              refine lk_iconst (v := 0) dX0_wholeDay_68 (by decide) ?_
              refine lk_goto (tgt := 76) dX0_wholeDay_69 (by decide) ?_
              refine lk_iload dX0_wholeDay_76 rfl ?_
              refine lk_iconst (v := 0) dX0_wholeDay_78 (by decide) ?_
              refine lk_callV (o := c) (as := [lk_vi 0, lk_vi 1, lk_vi 0]) (S := [lk_vi (nI (i))]) dX0_wholeDay_79 rfl vX0_travel rfl lX0_125 hc rfl (Nat.le_of_ble_eq_true rfl) (tX0_travel_up l X d (lk_s2 σ c V T) τ (c := c) (a := (0)) (z := 0) (hc := hc) (n := n) (hV := by rw [lk_s2_c]; exact hW) (hz := by decide) (hz9 := by decide) (ha := Nat.zero_le _)) ?_
              refine lk_k3 ?_
              refine lk_cast (pc' := 82) (S' := [lk_vi (nI ((lk_trv true 0 (lk_lks true (0) n) ((lk_s2 σ c V T) c) ((lk_s2 σ c V T) (c + 1))).1)), lk_vi (nI (i))]) rfl rfl rfl ?_
              refine lk_iaddN (a := i) (b := (lk_trv true 0 (lk_lks true (0) n) ((lk_s2 σ c V T) c) ((lk_s2 σ c V T) (c + 1))).1) dX0_wholeDay_82 ?_
              refine lk_istore_n (L' := [(0, lk_vr c 0), (1, lk_vi (nI (u))), (2, lk_vi (nI (e))), (3, lk_vi (nI (i + (lk_trv true 0 (lk_lks true (0) n) ((lk_s2 σ c V T) c) ((lk_s2 σ c V T) (c + 1))).1))), (4, lk_vi (nI (a))), (5, lk_vi (nI (b))), (6, lk_vi 1)]) dX0_wholeDay_83 rfl (by decide +kernel) rfl ?_
              refine lk_iload dX0_wholeDay_84 rfl ?_
              refine lk_if_eq (tgt := 95) dX0_wholeDay_86 (by decide) (fun hh8 => absurd hh8 (by decide)) (fun hh8 => ?_)
              refine lk_iincN (a := a) (m := 1) (L' := [(0, lk_vr c 0), (1, lk_vi (nI (u))), (2, lk_vi (nI (e))), (3, lk_vi (nI (i + (lk_trv true 0 (lk_lks true (0) n) ((lk_s2 σ c V T) c) ((lk_s2 σ c V T) (c + 1))).1))), (4, lk_vi (nI (a + 1))), (5, lk_vi (nI (b))), (6, lk_vi 1)]) dX0_wholeDay_89 rfl rfl (by decide +kernel) rfl ?_
              refine lk_goto (tgt := 98) dX0_wholeDay_92 (by decide) ?_
              refine lk_goto (tgt := 17) dX0_wholeDay_98 (by decide) ?_
              refine lk_sub (L' := [(0, lk_vr c 0), (1, lk_vi (nI (u))), (2, lk_vi (nI (e))), (3, lk_vi (nI (i + (lk_trv true 0 (lk_lks true (0) n) ((lk_s2 σ c V T) c) ((lk_s2 σ c V T) (c + 1))).1))), (4, lk_vi (nI (a + 1))), (5, lk_vi (nI (b)))]) [0, 1, 2, 3, 4, 5] rfl ?_
              have hw : lk_way u e a b = true := by simp [lk_way]; omega
              have hm : u + e - a - b = (u + e - (a + 1) - b) + 1 := by omega
              rw [hm, lk_dfi_u n u e _ a b i V T hw] at hI
              have hq := lk_trv_cok (up := true) (z := 0) (by decide) (by decide) (lk_lks true 0 n) V T (lk_lks_lt (Nat.zero_le _)) hW
              simp only [lk_s2_c, lk_s2_t, lk_yS_s2]
              exact ih (a + 1) b (i + (lk_trv true 0 (lk_lks true 0 n) V T).1) (lk_trv true 0 (lk_lks true 0 n) V T).2 (by omega) (by omega) hq.1 (by rw [hq.2]; exact hv12) hI (by omega)
            ·
              refine lk_iload dX0_wholeDay_48 rfl ?_
              refine lk_iload_n dX0_wholeDay_50 rfl rfl ?_
              refine lk_icmp_ltN (a := b) (b := e) (tgt := 58) dX0_wholeDay_51 (by decide) (by omega) (by omega) (fun hh9 => ?_) (fun hh9 => ?_)
              ·
                refine lk_iconst (v := 0) dX0_wholeDay_58 (by decide) ?_
                refine lk_istore (L' := [(0, lk_vr c 0), (1, lk_vi (nI (u))), (2, lk_vi (nI (e))), (3, lk_vi (nI (i))), (4, lk_vi (nI (a))), (5, lk_vi (nI (b))), (6, lk_vi 0)]) dX0_wholeDay_59 (by decide +kernel) rfl ?_
                refine lk_iload_n dX0_wholeDay_61 rfl rfl ?_
                refine lk_aload_n dX0_wholeDay_62 rfl rfl ?_
                refine lk_iload dX0_wholeDay_63 rfl ?_
                refine lk_if_eq (tgt := 72) dX0_wholeDay_65 (by decide) (fun hh10 => ?_) (fun hh10 => absurd hh10 (by decide))
                refine lk_aload_n dX0_wholeDay_72 rfl rfl ?_
                refine lk_getIv (v := nI (n)) (f := 0) dX0_wholeDay_73 hc fX0_51 (by decide) (by decide) (by rw [lk_s2_c]; exact hW.1) ?_
                refine lk_iload dX0_wholeDay_76 rfl ?_
                refine lk_iconst (v := 0) dX0_wholeDay_78 (by decide) ?_
                refine lk_callV (o := c) (as := [lk_vi (nI (n)), lk_vi 0, lk_vi 0]) (S := [lk_vi (nI (i))]) dX0_wholeDay_79 rfl vX0_travel rfl lX0_125 hc rfl (Nat.le_of_ble_eq_true rfl) (tX0_travel_dn l X d (lk_s2 σ c V T) τ (c := c) (a := (n)) (z := 0) (hc := hc) (n := n) (hV := by rw [lk_s2_c]; exact hW) (hz := by decide) (hz9 := by decide) (ha := Nat.le_refl _)) ?_
                refine lk_k3 ?_
                refine lk_cast (pc' := 82) (S' := [lk_vi (nI ((lk_trv false 0 (lk_lks false (n) n) ((lk_s2 σ c V T) c) ((lk_s2 σ c V T) (c + 1))).1)), lk_vi (nI (i))]) rfl rfl rfl ?_
                refine lk_iaddN (a := i) (b := (lk_trv false 0 (lk_lks false (n) n) ((lk_s2 σ c V T) c) ((lk_s2 σ c V T) (c + 1))).1) dX0_wholeDay_82 ?_
                refine lk_istore_n (L' := [(0, lk_vr c 0), (1, lk_vi (nI (u))), (2, lk_vi (nI (e))), (3, lk_vi (nI (i + (lk_trv false 0 (lk_lks false (n) n) ((lk_s2 σ c V T) c) ((lk_s2 σ c V T) (c + 1))).1))), (4, lk_vi (nI (a))), (5, lk_vi (nI (b))), (6, lk_vi 0)]) dX0_wholeDay_83 rfl (by decide +kernel) rfl ?_
                refine lk_iload dX0_wholeDay_84 rfl ?_
                refine lk_if_eq (tgt := 95) dX0_wholeDay_86 (by decide) (fun hh11 => ?_) (fun hh11 => absurd hh11 (by decide))
                refine lk_iincN (a := b) (m := 1) (L' := [(0, lk_vr c 0), (1, lk_vi (nI (u))), (2, lk_vi (nI (e))), (3, lk_vi (nI (i + (lk_trv false 0 (lk_lks false (n) n) ((lk_s2 σ c V T) c) ((lk_s2 σ c V T) (c + 1))).1))), (4, lk_vi (nI (a))), (5, lk_vi (nI (b + 1))), (6, lk_vi 0)]) dX0_wholeDay_95 rfl rfl (by decide +kernel) rfl ?_
                refine lk_goto (tgt := 17) dX0_wholeDay_98 (by decide) ?_
                refine lk_sub (L' := [(0, lk_vr c 0), (1, lk_vi (nI (u))), (2, lk_vi (nI (e))), (3, lk_vi (nI (i + (lk_trv false 0 (lk_lks false (n) n) ((lk_s2 σ c V T) c) ((lk_s2 σ c V T) (c + 1))).1))), (4, lk_vi (nI (a))), (5, lk_vi (nI (b + 1)))]) [0, 1, 2, 3, 4, 5] rfl ?_
                have hw : lk_way u e a b = false := by simp [lk_way]; omega
                have hm : u + e - a - b = (u + e - a - (b + 1)) + 1 := by omega
                rw [hm, lk_dfi_d n u e _ a b i V T hw] at hI
                have hq := lk_trv_cok (up := false) (z := 0) (by decide) (by decide) (lk_lks false n n) V T (lk_lks_lt (Nat.le_refl _)) hW
                simp only [lk_s2_c, lk_s2_t, lk_yS_s2]
                exact ih a (b + 1) (i + (lk_trv false 0 (lk_lks false n n) V T).1) (lk_trv false 0 (lk_lks false n n) V T).2 (by omega) (by omega) hq.1 (by rw [hq.2]; exact hv12) hI (by omega)
              ·
                refine lk_iconst (v := 1) dX0_wholeDay_54 (by decide) ?_
                refine lk_goto (tgt := 59) dX0_wholeDay_55 (by decide) ?_
                refine lk_istore (L' := [(0, lk_vr c 0), (1, lk_vi (nI (u))), (2, lk_vi (nI (e))), (3, lk_vi (nI (i))), (4, lk_vi (nI (a))), (5, lk_vi (nI (b))), (6, lk_vi 1)]) dX0_wholeDay_59 (by decide +kernel) rfl ?_
                refine lk_iload_n dX0_wholeDay_61 rfl rfl ?_
                refine lk_aload_n dX0_wholeDay_62 rfl rfl ?_
                refine lk_iload dX0_wholeDay_63 rfl ?_
                refine lk_if_eq (tgt := 72) dX0_wholeDay_65 (by decide) (fun hh12 => absurd hh12 (by decide)) (fun hh12 => ?_)
                refine lk_iconst (v := 0) dX0_wholeDay_68 (by decide) ?_
                refine lk_goto (tgt := 76) dX0_wholeDay_69 (by decide) ?_
                refine lk_iload dX0_wholeDay_76 rfl ?_
                refine lk_iconst (v := 0) dX0_wholeDay_78 (by decide) ?_
                refine lk_callV (o := c) (as := [lk_vi 0, lk_vi 1, lk_vi 0]) (S := [lk_vi (nI (i))]) dX0_wholeDay_79 rfl vX0_travel rfl lX0_125 hc rfl (Nat.le_of_ble_eq_true rfl) (tX0_travel_up l X d (lk_s2 σ c V T) τ (c := c) (a := (0)) (z := 0) (hc := hc) (n := n) (hV := by rw [lk_s2_c]; exact hW) (hz := by decide) (hz9 := by decide) (ha := Nat.zero_le _)) ?_
                refine lk_k3 ?_
                refine lk_cast (pc' := 82) (S' := [lk_vi (nI ((lk_trv true 0 (lk_lks true (0) n) ((lk_s2 σ c V T) c) ((lk_s2 σ c V T) (c + 1))).1)), lk_vi (nI (i))]) rfl rfl rfl ?_
                refine lk_iaddN (a := i) (b := (lk_trv true 0 (lk_lks true (0) n) ((lk_s2 σ c V T) c) ((lk_s2 σ c V T) (c + 1))).1) dX0_wholeDay_82 ?_
                refine lk_istore_n (L' := [(0, lk_vr c 0), (1, lk_vi (nI (u))), (2, lk_vi (nI (e))), (3, lk_vi (nI (i + (lk_trv true 0 (lk_lks true (0) n) ((lk_s2 σ c V T) c) ((lk_s2 σ c V T) (c + 1))).1))), (4, lk_vi (nI (a))), (5, lk_vi (nI (b))), (6, lk_vi 1)]) dX0_wholeDay_83 rfl (by decide +kernel) rfl ?_
                refine lk_iload dX0_wholeDay_84 rfl ?_
                refine lk_if_eq (tgt := 95) dX0_wholeDay_86 (by decide) (fun hh13 => absurd hh13 (by decide)) (fun hh13 => ?_)
                refine lk_iincN (a := a) (m := 1) (L' := [(0, lk_vr c 0), (1, lk_vi (nI (u))), (2, lk_vi (nI (e))), (3, lk_vi (nI (i + (lk_trv true 0 (lk_lks true (0) n) ((lk_s2 σ c V T) c) ((lk_s2 σ c V T) (c + 1))).1))), (4, lk_vi (nI (a + 1))), (5, lk_vi (nI (b))), (6, lk_vi 1)]) dX0_wholeDay_89 rfl rfl (by decide +kernel) rfl ?_
                refine lk_goto (tgt := 98) dX0_wholeDay_92 (by decide) ?_
                refine lk_goto (tgt := 17) dX0_wholeDay_98 (by decide) ?_
                refine lk_sub (L' := [(0, lk_vr c 0), (1, lk_vi (nI (u))), (2, lk_vi (nI (e))), (3, lk_vi (nI (i + (lk_trv true 0 (lk_lks true (0) n) ((lk_s2 σ c V T) c) ((lk_s2 σ c V T) (c + 1))).1))), (4, lk_vi (nI (a + 1))), (5, lk_vi (nI (b)))]) [0, 1, 2, 3, 4, 5] rfl ?_
                have hw : lk_way u e a b = true := by simp [lk_way]; omega
                have hm : u + e - a - b = (u + e - (a + 1) - b) + 1 := by omega
                rw [hm, lk_dfi_u n u e _ a b i V T hw] at hI
                have hq := lk_trv_cok (up := true) (z := 0) (by decide) (by decide) (lk_lks true 0 n) V T (lk_lks_lt (Nat.zero_le _)) hW
                simp only [lk_s2_c, lk_s2_t, lk_yS_s2]
                exact ih (a + 1) b (i + (lk_trv true 0 (lk_lks true 0 n) V T).1) (lk_trv true 0 (lk_lks true 0 n) V T).2 (by omega) (by omega) hq.1 (by rw [hq.2]; exact hv12) hI (by omega)
        ·
          refine lk_aload_n dX0_wholeDay_28 rfl rfl ?_
          refine lk_getIv (v := 1) (f := 12) dX0_wholeDay_29 hc fX0_119 (by decide) (by decide) (by simp [lk_yS, lk_so, lk_ou]) ?_
          refine lk_if_ne (tgt := 101) dX0_wholeDay_32 (by decide) (fun hh14 => ?_) (fun hh14 => absurd hh14 (by decide))
          refine lk_iload_n dX0_wholeDay_101 rfl rfl ?_
          refine lk_iret .int dX0_wholeDay_102 rfl rfl ?_
          rw [hQ]
          rw [lk_dfi_b] at hI
          rw [hI]
          exact ⟨rfl, rfl, rfl⟩
  refine lk_sg (σ' := lk_yS σ c (none, lk_ou (lk_lag (σ c) n) 12 0 0, σ (c + 1))) ?_ ?_
  · show lk_s2 σ c _ _ = _
    rw [lk_s2_t0, lk_up_so, lk_so_so, lk_so_eq]
  exact LP17 (u + e + 1) 0 0 0 _ (Nat.zero_le _) (Nat.zero_le _) (lk_lag_cok hV) (by simp [lk_ou]) (by simp [lk_day, lk_dfi]) (by omega)
