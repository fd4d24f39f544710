def lk_rst (n : Int32) (W : lk_O) : lk_O := fun f i => if f = 0 then n else if f = 2 then 20 else if f = 6 then 500 else if f = 8 then 9999 else if f < 10 then 0 else W f i
/-- the numbers of a canal, but for those that are no part of an image -/
def lk_im (V W : lk_O) : lk_O := fun f i => if f < 10 then V f i else W f i
def lk_rsA (n : Int32) (W : lk_O) (i : Nat) : lk_O := fun f j => if 2 ≤ f ∧ f ≤ 5 ∧ j < i then (if f = 2 then 20 else 0) else lk_ou (lk_ou W 0 0 n) 1 0 0 f j
def lk_rsB (W : lk_O) (i : Nat) : lk_O := fun f j => if 6 ≤ f ∧ f ≤ 9 ∧ j < i then (if f = 6 then 500 else if f = 8 then 9999 else 0) else W f j
theorem lk_rsA_0 (n : Int32) (σ : lk_N) (c : Nat) : lk_up (lk_up σ c 0 0 n) c 1 0 0 = lk_so σ c (lk_rsA n (σ c) 0) := by
  simp only [lk_up_so, lk_so_so, lk_so_eq]
  congr 1; funext f j
  simp [lk_rsA]
theorem lk_rsB_0 (W : lk_O) : lk_rsB W 0 = W := by funext f j; simp [lk_rsB]
theorem lk_rsA_s (n : Int32) (σ : lk_N) (W : lk_O) (c i : Nat) : lk_up (lk_up (lk_up (lk_up (lk_so σ c (lk_rsA n W i)) c 2 i 20) c 3 i 0) c 4 i 0) c 5 i 0 = lk_so σ c (lk_rsA n W (i + 1)) := by
  simp only [lk_up_so, lk_so_so, lk_so_eq]
  congr 1; funext f j
  simp only [lk_ou, lk_rsA]
  grind (splits := 24)
theorem lk_rsB_s (σ : lk_N) (W : lk_O) (c i : Nat) : lk_up (lk_up (lk_up (lk_up (lk_so σ c (lk_rsB W i)) c 6 i 500) c 7 i 0) c 8 i 9999) c 9 i 0 = lk_so σ c (lk_rsB W (i + 1)) := by
  simp only [lk_up_so, lk_so_so, lk_so_eq]
  congr 1; funext f j
  simp only [lk_ou, lk_rsB]
  grind (splits := 24)
theorem lk_rs_fin (n : Int32) (W : lk_O) {f i : Nat} (h : (f ≤ 1 ∧ i = 0) ∨ (2 ≤ f ∧ f ≤ 5 ∧ i < 6) ∨ (6 ≤ f ∧ f ≤ 9 ∧ i < 7) ∨ (f = 12 ∧ i = 0)) : lk_rst n W f i = lk_rsB (lk_rsA n W 6) 7 f i := by
  simp only [lk_rst, lk_rsB, lk_rsA, lk_ou]
  grind (splits := 24)
set_option maxHeartbeats 4000000 in
set_option maxRecDepth 100000 in
theorem tX0_reset (l : Launch) (X : lk_G) (d : Nat) (σ : lk_N) (τ : lk_T) (c : Nat) (hc : lk_ko c = 0) (n : Int32) : lk_Mt l X mX0_reset d [lk_vr c 0, lk_vi (n)] σ τ (fun rr σ1 τ1 => rr = none ∧ σ1 = lk_so σ c (lk_rst n (σ c)) ∧ τ1 = τ) := by
  refine lk_met (L := [(0, lk_vr c 0), (1, lk_vi (n))]) (by decide +kernel) (Nat.le_of_ble_eq_true rfl) rfl ?_
  obtain ⟨Q, hQ⟩ : ∃ Q : lk_Q, Q = fun rr σ1 τ1 => rr = none ∧ σ1 = lk_so σ c (lk_rst n (σ c)) ∧ τ1 = τ := ⟨_, rfl⟩
  rw [← hQ]
  refine lk_aload_n dX0_reset_0 rfl rfl ?_
  refine lk_iload_n dX0_reset_1 rfl rfl ?_
  refine lk_putI (f := 0) dX0_reset_2 hc fX0_51 (by decide) (by decide) ?_
  refine lk_aload_n dX0_reset_5 rfl rfl ?_
  refine lk_iconst (v := 0) dX0_reset_6 (by decide) ?_
  refine lk_putI (f := 1) dX0_reset_7 hc fX0_55 (by decide) (by decide) ?_
  refine lk_iconst (v := 0) dX0_reset_10 (by decide) ?_
  refine lk_istore_n (L' := [(0, lk_vr c 0), (1, lk_vi (n)), (2, lk_vi 0)]) dX0_reset_11 rfl (by decide +kernel) rfl ?_
  have LP12 : ∀ (fu : Nat) (i : Nat), i ≤ 6 → 6 - i < fu → lk_W l X mX0_reset d 12 [(0, lk_vr c 0), (1, lk_vi (n)), (2, lk_vi (nI (i)))] [] (lk_so σ c (lk_rsA n (σ c) i)) τ Q := by
    intro fu
    induction fu with
    | zero => intro i hi hfu; exact absurd hfu (by omega)
    | succ fu ih =>
      intro i hi hfu
      refine lk_iload_n dX0_reset_12 rfl rfl ?_
      refine lk_bipush (v := 6) dX0_reset_13 (by decide) ?_
      refine lk_icmp_geN (a := i) (b := 6) (tgt := 53) dX0_reset_15 (by decide) (by omega) (by omega) (fun h1 => ?_) (fun h1 => ?_)
      ·
        refine lk_iconst (v := 0) dX0_reset_53 (by decide) ?_
        refine lk_istore_n (L' := [(0, lk_vr c 0), (1, lk_vi (n)), (2, lk_vi 0)]) dX0_reset_54 rfl (by decide +kernel) rfl ?_
        have LP55 : ∀ (fu : Nat) (i2 : Nat), i2 ≤ 7 → 7 - i2 < fu → lk_W l X mX0_reset d 55 [(0, lk_vr c 0), (1, lk_vi (n)), (2, lk_vi (nI (i2)))] [] (lk_so σ c (lk_rsB (lk_rsA n (σ c) i) i2)) τ Q := by
          intro fu
          induction fu with
          | zero => intro i2 hi2 hfu; exact absurd hfu (by omega)
          | succ fu ih =>
            intro i2 hi2 hfu
            refine lk_iload_n dX0_reset_55 rfl rfl ?_
            refine lk_bipush (v := 6) dX0_reset_56 (by decide) ?_
            refine lk_icmp_gtN (a := i2) (b := 6) (tgt := 99) dX0_reset_58 (by decide) (by omega) (by omega) (fun h2 => ?_) (fun h2 => ?_)
            ·
              have hi7 : i2 = 7 := by omega
              have hi6 : i = 6 := by omega
              subst hi7; subst hi6
              refine lk_ext (σ' := lk_so σ c (lk_rst n (σ c))) (fun o f j hin => ?_) ?_
              · by_cases ho : o = c
                · subst ho
                  rw [lk_so_eq, lk_so_eq]
                  exact lk_rs_fin n _ (lk_inr0 hc hin)
                · rw [lk_so_ne ho, lk_so_ne ho]
              refine lk_vret dX0_reset_99 rfl ?_
              rw [hQ]
              exact ⟨by first | rfl | (simp [*]; done) | (simp_all; done) | grind, by first | rfl | (simp [*]; done), rfl⟩
            ·
              refine lk_aload_n dX0_reset_61 rfl rfl ?_
              refine lk_getR (f := 6) dX0_reset_62 hc fX0_25 (by decide) (by decide) ?_
              refine lk_iload_n dX0_reset_65 rfl rfl ?_
              refine lk_sipush (v := 500) dX0_reset_66 (by decide) ?_
              refine lk_iastN (f := 6) (i := i2) (v := 500) dX0_reset_69 hc (by decide) rfl (by omega) (by decide) ?_
              refine lk_aload_n dX0_reset_70 rfl rfl ?_
              refine lk_getR (f := 7) dX0_reset_71 hc fX0_28 (by decide) (by decide) ?_
              refine lk_iload_n dX0_reset_74 rfl rfl ?_
              refine lk_iconst (v := 0) dX0_reset_75 (by decide) ?_
              refine lk_iastN (f := 7) (i := i2) (v := 0) dX0_reset_76 hc (by decide) rfl (by omega) (by decide) ?_
              refine lk_aload_n dX0_reset_77 rfl rfl ?_
              refine lk_getR (f := 8) dX0_reset_78 hc fX0_31 (by decide) (by decide) ?_
              refine lk_iload_n dX0_reset_81 rfl rfl ?_
              refine lk_sipush (v := 9999) dX0_reset_82 (by decide) ?_
              refine lk_iastN (f := 8) (i := i2) (v := 9999) dX0_reset_85 hc (by decide) rfl (by omega) (by decide) ?_
              refine lk_aload_n dX0_reset_86 rfl rfl ?_
              refine lk_getR (f := 9) dX0_reset_87 hc fX0_34 (by decide) (by decide) ?_
              refine lk_iload_n dX0_reset_90 rfl rfl ?_
              refine lk_iconst (v := 0) dX0_reset_91 (by decide) ?_
              refine lk_iastN (f := 9) (i := i2) (v := 0) dX0_reset_92 hc (by decide) rfl (by omega) (by decide) ?_
              refine lk_iincN (a := i2) (m := 1) (L' := [(0, lk_vr c 0), (1, lk_vi (n)), (2, lk_vi (nI (i2 + 1)))]) dX0_reset_93 rfl rfl (by decide +kernel) rfl ?_
              refine lk_goto (tgt := 55) dX0_reset_96 (by decide) ?_
              rw [lk_rsB_s]
              exact ih (i2 + 1) (by omega) (by omega)
        have : i = 6 := by omega
        subst this
        rw [← lk_rsB_0 (lk_rsA n (σ c) 6)]
        exact LP55 8 0 (by omega) (by omega)
      ·
        refine lk_aload_n dX0_reset_18 rfl rfl ?_
        refine lk_getR (f := 2) dX0_reset_19 hc fX0_9 (by decide) (by decide) ?_
        refine lk_iload_n dX0_reset_22 rfl rfl ?_
        refine lk_bipush (v := 20) dX0_reset_23 (by decide) ?_
        refine lk_iastN (f := 2) (i := i) (v := 20) dX0_reset_25 hc (by decide) rfl (by omega) (by decide) ?_
        refine lk_aload_n dX0_reset_26 rfl rfl ?_
        refine lk_getR (f := 3) dX0_reset_27 hc fX0_15 (by decide) (by decide) ?_
        refine lk_iload_n dX0_reset_30 rfl rfl ?_
        refine lk_iconst (v := 0) dX0_reset_31 (by decide) ?_
        refine lk_iastN (f := 3) (i := i) (v := 0) dX0_reset_32 hc (by decide) rfl (by omega) (by decide) ?_
        refine lk_aload_n dX0_reset_33 rfl rfl ?_
        refine lk_getR (f := 4) dX0_reset_34 hc fX0_18 (by decide) (by decide) ?_
        refine lk_iload_n dX0_reset_37 rfl rfl ?_
        refine lk_iconst (v := 0) dX0_reset_38 (by decide) ?_
        refine lk_iastN (f := 4) (i := i) (v := 0) dX0_reset_39 hc (by decide) rfl (by omega) (by decide) ?_
        refine lk_aload_n dX0_reset_40 rfl rfl ?_
        refine lk_getR (f := 5) dX0_reset_41 hc fX0_21 (by decide) (by decide) ?_
        refine lk_iload_n dX0_reset_44 rfl rfl ?_
        refine lk_iconst (v := 0) dX0_reset_45 (by decide) ?_
        refine lk_zastN (f := 5) (i := i) (v := 0) dX0_reset_46 hc (by decide) rfl (by omega) (by decide) (by decide) ?_
        refine lk_iincN (a := i) (m := 1) (L' := [(0, lk_vr c 0), (1, lk_vi (n)), (2, lk_vi (nI (i + 1)))]) dX0_reset_47 rfl rfl (by decide +kernel) rfl ?_
        refine lk_goto (tgt := 12) dX0_reset_50 (by decide) ?_
        rw [lk_rsA_s]
        exact ih (i + 1) (by omega) (by omega)
  rw [lk_rsA_0]
  exact LP12 7 0 (by omega) (by omega)
