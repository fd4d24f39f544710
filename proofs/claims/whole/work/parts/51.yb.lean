theorem lk_cp_s (σ : lk_N) {o f g i : Nat} (h : ¬ f = g) : lk_up (lk_cp σ o f o g i) o g i (lk_cp σ o f o g i o f i) = lk_cp σ o f o g (i + 1) := by
  funext a b j
  simp only [lk_up, lk_cp]
  grind
theorem lk_cp_0 (σ : lk_N) (o f g : Nat) : lk_cp σ o f o g 0 = σ := by
  funext a b j
  simp only [lk_cp]
  grind
/-- row f of object o becomes R -/
def lk_sw (σ : lk_N) (o f : Nat) (R : Nat → Int32) : lk_N := fun a b i => if a = o ∧ b = f then R i else σ a b i
theorem lk_sw_self (σ : lk_N) (o f : Nat) : lk_sw σ o f (σ o f) = σ := by
  funext a b i
  simp only [lk_sw]
  split
  · rename_i h; rw [h.1, h.2]
  · rfl
def lk_bgA (N : Nat → Int32) (i : Nat) : Nat → Int32 := fun j => if j < 6 then (if j < i then 20 else N j) else if j < 12 then (if j < 6 + i then 0 else N j) else if j < 18 then (if j < 12 + i then 0 else N j) else if j < 24 then (if j < 18 + i then 0 else N j) else N j
def lk_bgB (N : Nat → Int32) (i : Nat) : Nat → Int32 := fun j => if j < 24 then N j else if j < 31 then (if j < 24 + i then 500 else N j) else if j < 38 then (if j < 31 + i then 0 else N j) else if j < 45 then (if j < 38 + i then 9999 else N j) else if j < 52 then (if j < 45 + i then 0 else N j) else N j
/-- the model begins anew, with n locks -/
def lk_bgn (n : Int32) (N : Nat → Int32) : Nat → Int32 := fun j => if j < 6 then 20 else if j < 24 then 0 else if j < 31 then 500 else if j < 38 then 0 else if j < 45 then 9999 else if j < 53 then 0 else if j = 53 then n else if j = 114 then 0 else N j
theorem lk_bgA_0 (N : Nat → Int32) : lk_bgA N 0 = N := by funext j; simp only [lk_bgA]; grind
theorem lk_bgB_0 (N : Nat → Int32) : lk_bgB N 0 = N := by funext j; simp only [lk_bgB]; grind
theorem lk_bgA_s (σ : lk_N) (N : Nat → Int32) {i : Nat} (h : i < 6) : lk_up (lk_up (lk_up (lk_up (lk_sw σ 1 0 (lk_bgA N i)) 1 0 (0 + i) 20) 1 0 (6 + i) 0) 1 0 (12 + i) 0) 1 0 (18 + i) 0 = lk_sw σ 1 0 (lk_bgA N (i + 1)) := by
  funext a b j
  simp only [lk_up, lk_sw, lk_bgA]
  grind (splits := 30)
theorem lk_bgB_s (σ : lk_N) (N : Nat → Int32) {i : Nat} (h : i < 7) : lk_up (lk_up (lk_up (lk_up (lk_sw σ 1 0 (lk_bgB N i)) 1 0 (24 + i) 500) 1 0 (31 + i) 0) 1 0 (38 + i) 9999) 1 0 (45 + i) 0 = lk_sw σ 1 0 (lk_bgB N (i + 1)) := by
  funext a b j
  simp only [lk_up, lk_sw, lk_bgB]
  grind (splits := 30)
theorem lk_bg_e (σ : lk_N) (N : Nat → Int32) (n : Int32) : lk_up (lk_up (lk_up (lk_sw σ 1 0 (lk_bgB (lk_bgA N 6) 7)) 1 0 52 0) 1 0 53 n) 1 0 114 0 = lk_sw σ 1 0 (lk_bgn n N) := by
  funext a b j
  simp only [lk_up, lk_sw, lk_bgB, lk_bgA, lk_bgn]
  grind (splits := 40)
set_option maxHeartbeats 1000000 in
set_option maxRecDepth 100000 in
theorem tX9_pours_02 (l : Launch) (X : lk_G) (d : Nat) (σ : lk_N) (τ : lk_T)  : lk_Mt l X mX9_pours d [lk_vr 1 1, lk_vr 1 3] σ τ (fun rr σ1 τ1 => rr = none ∧ σ1 = lk_cp σ 1 0 1 2 235 ∧ τ1 = τ) := by
  refine lk_met (L := [(0, lk_vr 1 1), (1, lk_vr 1 3)]) (by decide +kernel) (Nat.le_of_ble_eq_true rfl) rfl ?_
  obtain ⟨Q, hQ⟩ : ∃ Q : lk_Q, Q = fun rr σ1 τ1 => rr = none ∧ σ1 = lk_cp σ 1 0 1 2 235 ∧ τ1 = τ := ⟨_, rfl⟩
  rw [← hQ]
  refine lk_iconst (v := 0) dX9_pours_0 (by decide) ?_
  refine lk_istore_n (L' := [(0, lk_vr 1 1), (1, lk_vr 1 3), (2, lk_vi 0)]) dX9_pours_1 rfl (by decide +kernel) rfl ?_
  have LP2 : ∀ (fu : Nat) (i : Nat), i ≤ 235 → 235 - i < fu → lk_W l X mX9_pours d 2 [(0, lk_vr 1 1), (1, lk_vr 1 3), (2, lk_vi (nI (i)))] [] (lk_cp σ 1 0 1 2 i) τ Q := by
    intro fu
    induction fu with
    | zero => intro i hi hfu; exact absurd hfu (by omega)
    | succ fu ih =>
      intro i hi hfu
      refine lk_iload_n dX9_pours_2 rfl rfl ?_
      refine lk_sipush (v := 235) dX9_pours_3 (by decide) ?_
      refine lk_icmp_geN (a := i) (b := 235) (tgt := 21) dX9_pours_6 (by decide) (by omega) (by omega) (fun hh1 => ?_) (fun hh1 => ?_)
      ·
        refine lk_vret dX9_pours_21 rfl ?_
        rw [hQ]
        have hi5 : i = 235 := by omega
        subst hi5
        exact ⟨rfl, rfl, rfl⟩
      ·
        refine lk_aload_n dX9_pours_9 rfl rfl ?_
        refine lk_iload_n dX9_pours_10 rfl rfl ?_
        refine lk_aload_n dX9_pours_11 rfl rfl ?_
        refine lk_iload_n dX9_pours_12 rfl rfl ?_
        refine lk_ialdN (f := 0) (i := i) dX9_pours_13 rfl (by decide) rfl (by omega) (by decide) ?_
        refine lk_iastN (f := 2) (i := i) (v := ((lk_cp σ 1 0 1 2 i) 1 0 (i))) dX9_pours_14 rfl (by decide) rfl (by omega) (by decide) ?_
        refine lk_iincN (a := i) (m := 1) (L' := [(0, lk_vr 1 1), (1, lk_vr 1 3), (2, lk_vi (nI (i + 1)))]) dX9_pours_15 rfl rfl (by decide +kernel) rfl ?_
        refine lk_goto (tgt := 2) dX9_pours_18 (by decide) ?_
        rw [lk_cp_s σ (by decide)]
        exact ih (i + 1) (by omega) (by omega)
  refine lk_sg (lk_cp_0 σ 1 0 2) ?_
  exact LP2 236 0 (by omega) (by omega)

set_option maxHeartbeats 1000000 in
set_option maxRecDepth 100000 in
theorem tX9_pours_20 (l : Launch) (X : lk_G) (d : Nat) (σ : lk_N) (τ : lk_T)  : lk_Mt l X mX9_pours d [lk_vr 1 3, lk_vr 1 1] σ τ (fun rr σ1 τ1 => rr = none ∧ σ1 = lk_cp σ 1 2 1 0 235 ∧ τ1 = τ) := by
  refine lk_met (L := [(0, lk_vr 1 3), (1, lk_vr 1 1)]) (by decide +kernel) (Nat.le_of_ble_eq_true rfl) rfl ?_
  obtain ⟨Q, hQ⟩ : ∃ Q : lk_Q, Q = fun rr σ1 τ1 => rr = none ∧ σ1 = lk_cp σ 1 2 1 0 235 ∧ τ1 = τ := ⟨_, rfl⟩
  rw [← hQ]
  refine lk_iconst (v := 0) dX9_pours_0 (by decide) ?_
  refine lk_istore_n (L' := [(0, lk_vr 1 3), (1, lk_vr 1 1), (2, lk_vi 0)]) dX9_pours_1 rfl (by decide +kernel) rfl ?_
  have LP2 : ∀ (fu : Nat) (i : Nat), i ≤ 235 → 235 - i < fu → lk_W l X mX9_pours d 2 [(0, lk_vr 1 3), (1, lk_vr 1 1), (2, lk_vi (nI (i)))] [] (lk_cp σ 1 2 1 0 i) τ Q := by
    intro fu
    induction fu with
    | zero => intro i hi hfu; exact absurd hfu (by omega)
    | succ fu ih =>
      intro i hi hfu
      refine lk_iload_n dX9_pours_2 rfl rfl ?_
      refine lk_sipush (v := 235) dX9_pours_3 (by decide) ?_
      refine lk_icmp_geN (a := i) (b := 235) (tgt := 21) dX9_pours_6 (by decide) (by omega) (by omega) (fun hh1 => ?_) (fun hh1 => ?_)
      ·
        refine lk_vret dX9_pours_21 rfl ?_
        rw [hQ]
        have hi5 : i = 235 := by omega
        subst hi5
        exact ⟨rfl, rfl, rfl⟩
      ·
        refine lk_aload_n dX9_pours_9 rfl rfl ?_
        refine lk_iload_n dX9_pours_10 rfl rfl ?_
        refine lk_aload_n dX9_pours_11 rfl rfl ?_
        refine lk_iload_n dX9_pours_12 rfl rfl ?_
        refine lk_ialdN (f := 2) (i := i) dX9_pours_13 rfl (by decide) rfl (by omega) (by decide) ?_
        refine lk_iastN (f := 0) (i := i) (v := ((lk_cp σ 1 2 1 0 i) 1 2 (i))) dX9_pours_14 rfl (by decide) rfl (by omega) (by decide) ?_
        refine lk_iincN (a := i) (m := 1) (L' := [(0, lk_vr 1 3), (1, lk_vr 1 1), (2, lk_vi (nI (i + 1)))]) dX9_pours_15 rfl rfl (by decide +kernel) rfl ?_
        refine lk_goto (tgt := 2) dX9_pours_18 (by decide) ?_
        rw [lk_cp_s σ (by decide)]
        exact ih (i + 1) (by omega) (by omega)
  refine lk_sg (lk_cp_0 σ 1 2 0) ?_
  exact LP2 236 0 (by omega) (by omega)

set_option maxHeartbeats 1000000 in
set_option maxRecDepth 100000 in
theorem tX9_pours_01 (l : Launch) (X : lk_G) (d : Nat) (σ : lk_N) (τ : lk_T)  : lk_Mt l X mX9_pours d [lk_vr 1 1, lk_vr 1 2] σ τ (fun rr σ1 τ1 => rr = none ∧ σ1 = lk_cp σ 1 0 1 1 235 ∧ τ1 = τ) := by
  refine lk_met (L := [(0, lk_vr 1 1), (1, lk_vr 1 2)]) (by decide +kernel) (Nat.le_of_ble_eq_true rfl) rfl ?_
  obtain ⟨Q, hQ⟩ : ∃ Q : lk_Q, Q = fun rr σ1 τ1 => rr = none ∧ σ1 = lk_cp σ 1 0 1 1 235 ∧ τ1 = τ := ⟨_, rfl⟩
  rw [← hQ]
  refine lk_iconst (v := 0) dX9_pours_0 (by decide) ?_
  refine lk_istore_n (L' := [(0, lk_vr 1 1), (1, lk_vr 1 2), (2, lk_vi 0)]) dX9_pours_1 rfl (by decide +kernel) rfl ?_
  have LP2 : ∀ (fu : Nat) (i : Nat), i ≤ 235 → 235 - i < fu → lk_W l X mX9_pours d 2 [(0, lk_vr 1 1), (1, lk_vr 1 2), (2, lk_vi (nI (i)))] [] (lk_cp σ 1 0 1 1 i) τ Q := by
    intro fu
    induction fu with
    | zero => intro i hi hfu; exact absurd hfu (by omega)
    | succ fu ih =>
      intro i hi hfu
      refine lk_iload_n dX9_pours_2 rfl rfl ?_
      refine lk_sipush (v := 235) dX9_pours_3 (by decide) ?_
      refine lk_icmp_geN (a := i) (b := 235) (tgt := 21) dX9_pours_6 (by decide) (by omega) (by omega) (fun hh1 => ?_) (fun hh1 => ?_)
      ·
        refine lk_vret dX9_pours_21 rfl ?_
        rw [hQ]
        have hi5 : i = 235 := by omega
        subst hi5
        exact ⟨rfl, rfl, rfl⟩
      ·
        refine lk_aload_n dX9_pours_9 rfl rfl ?_
        refine lk_iload_n dX9_pours_10 rfl rfl ?_
        refine lk_aload_n dX9_pours_11 rfl rfl ?_
        refine lk_iload_n dX9_pours_12 rfl rfl ?_
        refine lk_ialdN (f := 0) (i := i) dX9_pours_13 rfl (by decide) rfl (by omega) (by decide) ?_
        refine lk_iastN (f := 1) (i := i) (v := ((lk_cp σ 1 0 1 1 i) 1 0 (i))) dX9_pours_14 rfl (by decide) rfl (by omega) (by decide) ?_
        refine lk_iincN (a := i) (m := 1) (L' := [(0, lk_vr 1 1), (1, lk_vr 1 2), (2, lk_vi (nI (i + 1)))]) dX9_pours_15 rfl rfl (by decide +kernel) rfl ?_
        refine lk_goto (tgt := 2) dX9_pours_18 (by decide) ?_
        rw [lk_cp_s σ (by decide)]
        exact ih (i + 1) (by omega) (by omega)
  refine lk_sg (lk_cp_0 σ 1 0 1) ?_
  exact LP2 236 0 (by omega) (by omega)

set_option maxHeartbeats 1000000 in
set_option maxRecDepth 100000 in
theorem tX9_pours_10 (l : Launch) (X : lk_G) (d : Nat) (σ : lk_N) (τ : lk_T)  : lk_Mt l X mX9_pours d [lk_vr 1 2, lk_vr 1 1] σ τ (fun rr σ1 τ1 => rr = none ∧ σ1 = lk_cp σ 1 1 1 0 235 ∧ τ1 = τ) := by
  refine lk_met (L := [(0, lk_vr 1 2), (1, lk_vr 1 1)]) (by decide +kernel) (Nat.le_of_ble_eq_true rfl) rfl ?_
  obtain ⟨Q, hQ⟩ : ∃ Q : lk_Q, Q = fun rr σ1 τ1 => rr = none ∧ σ1 = lk_cp σ 1 1 1 0 235 ∧ τ1 = τ := ⟨_, rfl⟩
  rw [← hQ]
  refine lk_iconst (v := 0) dX9_pours_0 (by decide) ?_
  refine lk_istore_n (L' := [(0, lk_vr 1 2), (1, lk_vr 1 1), (2, lk_vi 0)]) dX9_pours_1 rfl (by decide +kernel) rfl ?_
  have LP2 : ∀ (fu : Nat) (i : Nat), i ≤ 235 → 235 - i < fu → lk_W l X mX9_pours d 2 [(0, lk_vr 1 2), (1, lk_vr 1 1), (2, lk_vi (nI (i)))] [] (lk_cp σ 1 1 1 0 i) τ Q := by
    intro fu
    induction fu with
    | zero => intro i hi hfu; exact absurd hfu (by omega)
    | succ fu ih =>
      intro i hi hfu
      refine lk_iload_n dX9_pours_2 rfl rfl ?_
      refine lk_sipush (v := 235) dX9_pours_3 (by decide) ?_
      refine lk_icmp_geN (a := i) (b := 235) (tgt := 21) dX9_pours_6 (by decide) (by omega) (by omega) (fun hh1 => ?_) (fun hh1 => ?_)
      ·
        refine lk_vret dX9_pours_21 rfl ?_
        rw [hQ]
        have hi5 : i = 235 := by omega
        subst hi5
        exact ⟨rfl, rfl, rfl⟩
      ·
        refine lk_aload_n dX9_pours_9 rfl rfl ?_
        refine lk_iload_n dX9_pours_10 rfl rfl ?_
        refine lk_aload_n dX9_pours_11 rfl rfl ?_
        refine lk_iload_n dX9_pours_12 rfl rfl ?_
        refine lk_ialdN (f := 1) (i := i) dX9_pours_13 rfl (by decide) rfl (by omega) (by decide) ?_
        refine lk_iastN (f := 0) (i := i) (v := ((lk_cp σ 1 1 1 0 i) 1 1 (i))) dX9_pours_14 rfl (by decide) rfl (by omega) (by decide) ?_
        refine lk_iincN (a := i) (m := 1) (L' := [(0, lk_vr 1 2), (1, lk_vr 1 1), (2, lk_vi (nI (i + 1)))]) dX9_pours_15 rfl rfl (by decide +kernel) rfl ?_
        refine lk_goto (tgt := 2) dX9_pours_18 (by decide) ?_
        rw [lk_cp_s σ (by decide)]
        exact ih (i + 1) (by omega) (by omega)
  refine lk_sg (lk_cp_0 σ 1 1 0) ?_
  exact LP2 236 0 (by omega) (by omega)

set_option maxHeartbeats 1000000 in
set_option maxRecDepth 100000 in
theorem tX9_begins (l : Launch) (X : lk_G) (d : Nat) (σ : lk_N) (τ : lk_T) (n : Int32) : lk_Mt l X mX9_begins d [lk_vr 1 0, lk_vi (n)] σ τ (fun rr σ1 τ1 => rr = none ∧ σ1 = lk_sw σ 1 0 (lk_bgn n (σ 1 0)) ∧ τ1 = τ) := by
  refine lk_met (L := [(0, lk_vr 1 0), (1, lk_vi (n))]) (by decide +kernel) (Nat.le_of_ble_eq_true rfl) rfl ?_
  obtain ⟨Q, hQ⟩ : ∃ Q : lk_Q, Q = fun rr σ1 τ1 => rr = none ∧ σ1 = lk_sw σ 1 0 (lk_bgn n (σ 1 0)) ∧ τ1 = τ := ⟨_, rfl⟩
  rw [← hQ]
  refine lk_iconst (v := 0) dX9_begins_0 (by decide) ?_
  refine lk_istore_n (L' := [(0, lk_vr 1 0), (1, lk_vi (n)), (2, lk_vi 0)]) dX9_begins_1 rfl (by decide +kernel) rfl ?_
  have LP2 : ∀ (fu : Nat) (i : Nat), i ≤ 6 → 6 - i < fu → lk_W l X mX9_begins d 2 [(0, lk_vr 1 0), (1, lk_vi (n)), (2, lk_vi (nI (i)))] [] (lk_sw σ 1 0 (lk_bgA (σ 1 0) i)) τ Q := by
    intro fu
    induction fu with
    | zero => intro i hi hfu; exact absurd hfu (by omega)
    | succ fu ih =>
      intro i hi hfu
      refine lk_iload_n dX9_begins_2 rfl rfl ?_
      refine lk_bipush (v := 6) dX9_begins_3 (by decide) ?_
      refine lk_icmp_geN (a := i) (b := 6) (tgt := 54) dX9_begins_5 (by decide) (by omega) (by omega) (fun hh1 => ?_) (fun hh1 => ?_)
      ·
        refine lk_iconst (v := 0) dX9_begins_54 (by decide) ?_
        refine lk_istore_n (L' := [(0, lk_vr 1 0), (1, lk_vi (n)), (2, lk_vi 0)]) dX9_begins_55 rfl (by decide +kernel) rfl ?_
        have LP56 : ∀ (fu : Nat) (i : Nat), i ≤ 7 → 7 - i < fu → lk_W l X mX9_begins d 56 [(0, lk_vr 1 0), (1, lk_vi (n)), (2, lk_vi (nI (i)))] [] (lk_sw σ 1 0 (lk_bgB (lk_bgA (σ 1 0) 6) i)) τ Q := by
          intro fu
          induction fu with
          | zero => intro i hi hfu; exact absurd hfu (by omega)
          | succ fu ih =>
            intro i hi hfu
            refine lk_iload_n dX9_begins_56 rfl rfl ?_
            refine lk_bipush (v := 7) dX9_begins_57 (by decide) ?_
            refine lk_icmp_geN (a := i) (b := 7) (tgt := 112) dX9_begins_59 (by decide) (by omega) (by omega) (fun hh2 => ?_) (fun hh2 => ?_)
            ·
              refine lk_aload_n dX9_begins_112 rfl rfl ?_
              refine lk_getR (f := 0) dX9_begins_113 rfl fX9_9 (by decide) (by decide) ?_
              refine lk_bipush (v := 52) dX9_begins_116 (by decide) ?_
              refine lk_iconst (v := 0) dX9_begins_118 (by decide) ?_
              refine lk_iastN (f := 0) (i := 52) (v := 0) dX9_begins_119 rfl (by decide) rfl (by omega) (by decide) ?_
              refine lk_aload_n dX9_begins_120 rfl rfl ?_
              refine lk_getR (f := 0) dX9_begins_121 rfl fX9_9 (by decide) (by decide) ?_
              refine lk_bipush (v := 53) dX9_begins_124 (by decide) ?_
              refine lk_iload_n dX9_begins_126 rfl rfl ?_
              refine lk_iastN (f := 0) (i := 53) (v := (n)) dX9_begins_127 rfl (by decide) rfl (by omega) (by decide) ?_
              refine lk_aload_n dX9_begins_128 rfl rfl ?_
              refine lk_getR (f := 0) dX9_begins_129 rfl fX9_9 (by decide) (by decide) ?_
              refine lk_bipush (v := 114) dX9_begins_132 (by decide) ?_
              refine lk_iconst (v := 0) dX9_begins_134 (by decide) ?_
              refine lk_iastN (f := 0) (i := 114) (v := 0) dX9_begins_135 rfl (by decide) rfl (by omega) (by decide) ?_
              refine lk_vret dX9_begins_136 rfl ?_
              rw [hQ]
              have hi7 : i = 7 := by omega
              subst hi7
              exact ⟨rfl, lk_bg_e σ _ n, rfl⟩
            ·
              refine lk_aload_n dX9_begins_62 rfl rfl ?_
              refine lk_getR (f := 0) dX9_begins_63 rfl fX9_9 (by decide) (by decide) ?_
              refine lk_bipush (v := 24) dX9_begins_66 (by decide) ?_
              refine lk_iload_n dX9_begins_68 rfl rfl ?_
              refine lk_iaddN (a := 24) (b := i) dX9_begins_69 ?_
              refine lk_sipush (v := 500) dX9_begins_70 (by decide) ?_
              refine lk_iastN (f := 0) (i := 24 + i) (v := 500) dX9_begins_73 rfl (by decide) rfl (by omega) (by decide) ?_
              refine lk_aload_n dX9_begins_74 rfl rfl ?_
              refine lk_getR (f := 0) dX9_begins_75 rfl fX9_9 (by decide) (by decide) ?_
              refine lk_bipush (v := 31) dX9_begins_78 (by decide) ?_
              refine lk_iload_n dX9_begins_80 rfl rfl ?_
              refine lk_iaddN (a := 31) (b := i) dX9_begins_81 ?_
              refine lk_iconst (v := 0) dX9_begins_82 (by decide) ?_
              refine lk_iastN (f := 0) (i := 31 + i) (v := 0) dX9_begins_83 rfl (by decide) rfl (by omega) (by decide) ?_
              refine lk_aload_n dX9_begins_84 rfl rfl ?_
              refine lk_getR (f := 0) dX9_begins_85 rfl fX9_9 (by decide) (by decide) ?_
              refine lk_bipush (v := 38) dX9_begins_88 (by decide) ?_
              refine lk_iload_n dX9_begins_90 rfl rfl ?_
              refine lk_iaddN (a := 38) (b := i) dX9_begins_91 ?_
              refine lk_sipush (v := 9999) dX9_begins_92 (by decide) ?_
              refine lk_iastN (f := 0) (i := 38 + i) (v := 9999) dX9_begins_95 rfl (by decide) rfl (by omega) (by decide) ?_
              refine lk_aload_n dX9_begins_96 rfl rfl ?_
              refine lk_getR (f := 0) dX9_begins_97 rfl fX9_9 (by decide) (by decide) ?_
              refine lk_bipush (v := 45) dX9_begins_100 (by decide) ?_
              refine lk_iload_n dX9_begins_102 rfl rfl ?_
              refine lk_iaddN (a := 45) (b := i) dX9_begins_103 ?_
              refine lk_iconst (v := 0) dX9_begins_104 (by decide) ?_
              refine lk_iastN (f := 0) (i := 45 + i) (v := 0) dX9_begins_105 rfl (by decide) rfl (by omega) (by decide) ?_
              refine lk_iincN (a := i) (m := 1) (L' := [(0, lk_vr 1 0), (1, lk_vi (n)), (2, lk_vi (nI (i + 1)))]) dX9_begins_106 rfl rfl (by decide +kernel) rfl ?_
              refine lk_goto (tgt := 56) dX9_begins_109 (by decide) ?_
              rw [lk_bgB_s σ _ (by omega)]
              exact ih (i + 1) (by omega) (by omega)
        have hi6 : i = 6 := by omega
        subst hi6
        refine lk_sg (σ' := lk_sw σ 1 0 (lk_bgB (lk_bgA (σ 1 0) 6) 0)) (by rw [lk_bgB_0]) ?_
        exact LP56 8 0 (by omega) (by omega)
      ·
        refine lk_aload_n dX9_begins_8 rfl rfl ?_
        refine lk_getR (f := 0) dX9_begins_9 rfl fX9_9 (by decide) (by decide) ?_
        refine lk_iconst (v := 0) dX9_begins_12 (by decide) ?_
        refine lk_iload_n dX9_begins_13 rfl rfl ?_
        refine lk_iaddN (a := 0) (b := i) dX9_begins_14 ?_
        refine lk_bipush (v := 20) dX9_begins_15 (by decide) ?_
        refine lk_iastN (f := 0) (i := 0 + i) (v := 20) dX9_begins_17 rfl (by decide) rfl (by omega) (by decide) ?_
        refine lk_aload_n dX9_begins_18 rfl rfl ?_
        refine lk_getR (f := 0) dX9_begins_19 rfl fX9_9 (by decide) (by decide) ?_
        refine lk_bipush (v := 6) dX9_begins_22 (by decide) ?_
        refine lk_iload_n dX9_begins_24 rfl rfl ?_
        refine lk_iaddN (a := 6) (b := i) dX9_begins_25 ?_
        refine lk_iconst (v := 0) dX9_begins_26 (by decide) ?_
        refine lk_iastN (f := 0) (i := 6 + i) (v := 0) dX9_begins_27 rfl (by decide) rfl (by omega) (by decide) ?_
        refine lk_aload_n dX9_begins_28 rfl rfl ?_
        refine lk_getR (f := 0) dX9_begins_29 rfl fX9_9 (by decide) (by decide) ?_
        refine lk_bipush (v := 12) dX9_begins_32 (by decide) ?_
        refine lk_iload_n dX9_begins_34 rfl rfl ?_
        refine lk_iaddN (a := 12) (b := i) dX9_begins_35 ?_
        refine lk_iconst (v := 0) dX9_begins_36 (by decide) ?_
        refine lk_iastN (f := 0) (i := 12 + i) (v := 0) dX9_begins_37 rfl (by decide) rfl (by omega) (by decide) ?_
        refine lk_aload_n dX9_begins_38 rfl rfl ?_
        refine lk_getR (f := 0) dX9_begins_39 rfl fX9_9 (by decide) (by decide) ?_
        refine lk_bipush (v := 18) dX9_begins_42 (by decide) ?_
        refine lk_iload_n dX9_begins_44 rfl rfl ?_
        refine lk_iaddN (a := 18) (b := i) dX9_begins_45 ?_
        refine lk_iconst (v := 0) dX9_begins_46 (by decide) ?_
        refine lk_iastN (f := 0) (i := 18 + i) (v := 0) dX9_begins_47 rfl (by decide) rfl (by omega) (by decide) ?_
        refine lk_iincN (a := i) (m := 1) (L' := [(0, lk_vr 1 0), (1, lk_vi (n)), (2, lk_vi (nI (i + 1)))]) dX9_begins_48 rfl rfl (by decide +kernel) rfl ?_
        refine lk_goto (tgt := 2) dX9_begins_51 (by decide) ?_
        rw [lk_bgA_s σ _ (by omega)]
        exact ih (i + 1) (by omega) (by omega)
  refine lk_sg (σ' := lk_sw σ 1 0 (lk_bgA (σ 1 0) 0)) (by rw [lk_bgA_0, lk_sw_self]) ?_
  exact LP2 7 0 (by omega) (by omega)

set_option maxHeartbeats 1000000 in
set_option maxRecDepth 100000 in
theorem tX9_locks_ok (l : Launch) (X : lk_G) (d : Nat) (σ : lk_N) (τ : lk_T) (n : Int32) (h : 1 ≤ n ∧ n ≤ 6) : lk_Mt l X mX9_locks (d + 1) [lk_vr 1 0, lk_vi (n)] σ τ (fun rr σ1 τ1 => rr = some (lk_vi (σ 1 0 53)) ∧ σ1 = lk_sw σ 1 0 (lk_bgn n (σ 1 0)) ∧ τ1 = τ) := by
  refine lk_met (L := [(0, lk_vr 1 0), (1, lk_vi (n))]) (by decide +kernel) (Nat.le_of_ble_eq_true rfl) rfl ?_
  obtain ⟨Q, hQ⟩ : ∃ Q : lk_Q, Q = fun rr σ1 τ1 => rr = some (lk_vi (σ 1 0 53)) ∧ σ1 = lk_sw σ 1 0 (lk_bgn n (σ 1 0)) ∧ τ1 = τ := ⟨_, rfl⟩
  rw [← hQ]
  refine lk_iload_n dX9_locks_0 rfl rfl ?_
  refine lk_iconst (v := 1) dX9_locks_1 (by decide) ?_
  refine lk_bipush (v := 6) dX9_locks_2 (by decide) ?_
  refine lk_callS (as := [lk_vi (n), lk_vi 1, lk_vi 6]) (S := []) dX9_locks_4 rfl vX9_within rfl lX9_46 (Nat.le_of_ble_eq_true rfl) (tX9_within l X d σ τ (v := (n)) (a := 1) (b := 6) ) ?_
  refine lk_k3 ?_
  refine lk_cast (pc' := 7) (S' := [lk_vi (if 1 ≤ (n) ∧ (n) ≤ 6 then 1 else 0)]) rfl rfl rfl ?_
  refine lk_if_neB (tgt := 12) dX9_locks_7 (by decide) (fun hh1 => ?_) (fun hh1 => absurd hh1 (fun q => q h))
  refine lk_aload_n dX9_locks_12 rfl rfl ?_
  refine lk_getR (f := 0) dX9_locks_13 rfl fX9_9 (by decide) (by decide) ?_
  refine lk_bipush (v := 53) dX9_locks_16 (by decide) ?_
  refine lk_ialdN (f := 0) (i := 53) dX9_locks_18 rfl (by decide) rfl (by omega) (by decide) ?_
  refine lk_istore_n (L' := [(0, lk_vr 1 0), (1, lk_vi (n)), (2, lk_vi (σ 1 0 (53)))]) dX9_locks_19 rfl (by decide +kernel) rfl ?_
  refine lk_aload_n dX9_locks_20 rfl rfl ?_
  refine lk_iload_n dX9_locks_21 rfl rfl ?_
  refine lk_callV (o := 1) (as := [lk_vi (n)]) (S := []) dX9_locks_22 rfl vX9_begins rfl lX9_42 rfl rfl (Nat.le_of_ble_eq_true rfl) (tX9_begins l X d σ τ (n := (n)) ) ?_
  refine lk_k3 ?_
  refine lk_cast (pc' := 25) (S' := []) rfl rfl rfl ?_
  refine lk_iload_n dX9_locks_25 rfl rfl ?_
  refine lk_iret .int dX9_locks_26 rfl rfl ?_
  rw [hQ]
  exact ⟨by first | rfl | (simp [*]; done) | (simp_all; done) | grind, by first | rfl | (simp [*]; done), rfl⟩

set_option maxHeartbeats 1000000 in
set_option maxRecDepth 100000 in
theorem tX9_locks_bad (l : Launch) (X : lk_G) (d : Nat) (σ : lk_N) (τ : lk_T) (n : Int32) (h : ¬ (1 ≤ n ∧ n ≤ 6)) : lk_Mt l X mX9_locks (d + 1) [lk_vr 1 0, lk_vi (n)] σ τ (fun rr σ1 τ1 => rr = some (lk_vi (-1)) ∧ σ1 = σ ∧ τ1 = τ) := by
  refine lk_met (L := [(0, lk_vr 1 0), (1, lk_vi (n))]) (by decide +kernel) (Nat.le_of_ble_eq_true rfl) rfl ?_
  obtain ⟨Q, hQ⟩ : ∃ Q : lk_Q, Q = fun rr σ1 τ1 => rr = some (lk_vi (-1)) ∧ σ1 = σ ∧ τ1 = τ := ⟨_, rfl⟩
  rw [← hQ]
  refine lk_iload_n dX9_locks_0 rfl rfl ?_
  refine lk_iconst (v := 1) dX9_locks_1 (by decide) ?_
  refine lk_bipush (v := 6) dX9_locks_2 (by decide) ?_
  refine lk_callS (as := [lk_vi (n), lk_vi 1, lk_vi 6]) (S := []) dX9_locks_4 rfl vX9_within rfl lX9_46 (Nat.le_of_ble_eq_true rfl) (tX9_within l X d σ τ (v := (n)) (a := 1) (b := 6) ) ?_
  refine lk_k3 ?_
  refine lk_cast (pc' := 7) (S' := [lk_vi (if 1 ≤ (n) ∧ (n) ≤ 6 then 1 else 0)]) rfl rfl rfl ?_
  refine lk_if_neB (tgt := 12) dX9_locks_7 (by decide) (fun hh1 => absurd hh1 h) (fun hh1 => ?_)
  refine lk_iconst (v := (-1)) dX9_locks_10 (by decide) ?_
  refine lk_iret .int dX9_locks_11 rfl rfl ?_
  rw [hQ]
  exact ⟨by first | rfl | (simp [*]; done) | (simp_all; done) | grind, by first | rfl | (simp [*]; done), rfl⟩
