theorem lk_inr2 {c f i : Nat} (hc : lk_ko c = 2) (h : lk_inr c f i) : (f < 5 ∧ i < 22) ∨ (f = 5 ∧ i = 0) := by
  unfold lk_inr at h
  rw [hc] at h
  have hf : f < 6 := by
    rcases Nat.lt_or_ge f 6 with q | q
    · exact q
    · have : lk_fk 2 f = (9, 0) := by
        unfold lk_fk
        rw [List.getD_eq_getElem?_getD, List.getElem?_eq_none (show (lk_fks.getD 2 []).length ≤ f from q)]
        rfl
      rw [this] at h
      simp at h
  have key : ∀ f, f < 6 → (f < 5 ∧ (lk_fk 2 f).2 = 22 ∧ 2 ≤ (lk_fk 2 f).1 ∧ (lk_fk 2 f).1 ≤ 3) ∨ (f = 5 ∧ (lk_fk 2 f).1 = 0) := by decide +kernel
  rcases key f hf with ⟨a, b, e, e1⟩ | ⟨a, b⟩ <;> omega
def lk_fcA (V W : lk_O) (i : Nat) : lk_O := fun f j => if f < 6 ∧ (f = 3 → j < i) then V f j else W f j
theorem lk_fc_fin {σ : lk_N} {a o f j : Nat} (hoc : ¬ o = a) (h : (f < 5 ∧ j < 22) ∨ (f = 5 ∧ j = 0)) :
    lk_fcA (σ o) (σ a) 0 f j = (lk_cp (lk_cp (lk_cp (lk_cp (lk_up σ a 5 0 (σ o 5 0)) o 0 a 0 22) o 1 a 1 22) o 2 a 2 22) o 4 a 4 22) a f j := by
  simp only [lk_fcA, lk_cp, lk_up, hoc, false_and, if_false, true_and]
  grind (splits := 40)
theorem lk_fc_end {V W : lk_O} {f j : Nat} (h : (f < 5 ∧ j < 22) ∨ (f = 5 ∧ j = 0)) : V f j = lk_fcA V W 22 f j := by
  simp only [lk_fcA]
  grind
theorem lk_fcA_s (σ : lk_N) (V W : lk_O) (c i : Nat) : lk_up (lk_so σ c (lk_fcA V W i)) c 3 i (V 3 i) = lk_so σ c (lk_fcA V W (i + 1)) := by
  rw [lk_up_so, lk_so_so, lk_so_eq]
  congr 1; funext f j
  simp only [lk_ou, lk_fcA]
  grind
/-- the number of the boat of this name, of m boats from number b on -/
def lk_fno (B : lk_O) (w : Int32) : Nat → Nat → Int32
  | 0, _ => -2
  | m + 1, b => if B 0 b = w then nI b else lk_fno B w m (b + 1)
def lk_fcr (B : lk_O) (a b : Nat) : lk_O := fun f i => if f < 5 ∧ i = b then B f a else B f i
def lk_dv (v : Int32) : Nat → Int32
  | 0 => v
  | m + 1 => lk_dv v m / 27
/-- the k-th figure of a name, and the letter that it tells -/
def lk_let (v : Int32) (k : Nat) : Int32 := lk_dv v (3 - k) - lk_dv v (3 - k) / 27 * 27
def lk_lett (v : Int32) (k : Nat) : Int32 := if lk_let v k = 0 then -2 else 96 + lk_let v k
def lk_lcn (v : Int32) : Nat → Nat → Nat
  | 0, k => k
  | m + 1, k => if lk_lett v k = -2 then k else lk_lcn v m (k + 1)
def lk_fnum (B : lk_O) (b w : Nat) : Int32 := if w = 0 then B 1 b else if w = 1 then B 2 b else if w = 2 then (if B 3 b = 0 then 0 else 1) else if w = 3 then B 4 b else nI (lk_lcn (B 0 b) 4 0)
/-- the first place whose name isn't less, of m places from b on -/
def lk_fpl (B : lk_O) (w : Int32) : Nat → Nat → Nat
  | 0, b => b
  | m + 1, b => if B 0 b < w then lk_fpl B w m (b + 1) else b
def lk_shi (B : lk_O) (i n : Nat) : lk_O := fun f j => if f < 5 ∧ i < j ∧ j ≤ n then B f (j - 1) else B f j
/-- a row is opened at p -/
def lk_fsh (B : lk_O) (p n : Nat) : lk_O := fun f j => if f < 5 ∧ p < j ∧ j ≤ n then B f (j - 1) else if f = 5 ∧ j = 0 then nI (n + 1) else B f j
theorem lk_shi_0 (σ : lk_N) (f n : Nat) : lk_so σ f (lk_shi (σ f) n n) = σ := by
  have : lk_shi (σ f) n n = σ f := by
    funext g j
    simp only [lk_shi]
    rw [if_neg (by omega)]
  rw [this, lk_so_self]
theorem lk_shi_s (B : lk_O) {i n : Nat} (h : 1 ≤ i) (h2 : i ≤ n) : lk_fcr (lk_shi B i n) (i - 1) i = lk_shi B (i - 1) n := by
  funext f j
  simp only [lk_fcr, lk_shi]
  grind
theorem lk_shi_e (B : lk_O) (p n : Nat) : lk_ou (lk_shi B p n) 5 0 (nI (n + 1)) = lk_fsh B p n := by
  funext f j
  simp only [lk_ou, lk_shi, lk_fsh]
  grind
set_option maxHeartbeats 1000000 in
set_option maxRecDepth 100000 in
theorem tX2_has_in (l : Launch) (X : lk_G) (d : Nat) (σ : lk_N) (τ : lk_T) (f : Nat) (hf : lk_ko f = 2) (n b : Nat) (hn : σ f 5 0 = nI n) (hb : b < n) (hn22 : n ≤ 22) : lk_Mt l X mX2_has d [lk_vr f 0, lk_vi (nI (b))] σ τ (fun rr σ1 τ1 => rr = some (lk_vi 1) ∧ σ1 = σ ∧ τ1 = τ) := by
  refine lk_met (L := [(0, lk_vr f 0), (1, lk_vi (nI (b)))]) (by decide +kernel) (Nat.le_of_ble_eq_true rfl) rfl ?_
  obtain ⟨Q, hQ⟩ : ∃ Q : lk_Q, Q = fun rr σ1 τ1 => rr = some (lk_vi 1) ∧ σ1 = σ ∧ τ1 = τ := ⟨_, rfl⟩
  rw [← hQ]
  refine lk_iload_n dX2_has_0 rfl rfl ?_
  refine lk_if_ltN (a := b) (tgt := 16) dX2_has_1 (by decide) (by omega) (fun hh1 => absurd hh1 (by omega)) (fun hh1 => ?_)
  refine lk_iload_n dX2_has_4 rfl rfl ?_
  refine lk_aload_n dX2_has_5 rfl rfl ?_
  refine lk_getIv (v := nI (n)) (f := 5) dX2_has_6 hf fX2_28 (by decide) (by decide) hn ?_
  refine lk_icmp_geN (a := b) (b := n) (tgt := 16) dX2_has_9 (by decide) (by omega) (by omega) (fun hh2 => absurd hh2 (by omega)) (fun hh2 => ?_)
  refine lk_iconst (v := 1) dX2_has_12 (by decide) ?_
  refine lk_goto (tgt := 17) dX2_has_13 (by decide) ?_
  refine lk_iret .boolean dX2_has_17 rfl rfl ?_
  rw [hQ]
  exact ⟨by first | rfl | (simp [*]; done) | (simp_all; done) | grind, by first | rfl | (simp [*]; done), rfl⟩

set_option maxHeartbeats 1000000 in
set_option maxRecDepth 100000 in
theorem tX2_has_out (l : Launch) (X : lk_G) (d : Nat) (σ : lk_N) (τ : lk_T) (f : Nat) (hf : lk_ko f = 2) (b : Int32) (hb : b < 0 ∨ σ f 5 0 ≤ b) : lk_Mt l X mX2_has d [lk_vr f 0, lk_vi (b)] σ τ (fun rr σ1 τ1 => rr = some (lk_vi 0) ∧ σ1 = σ ∧ τ1 = τ) := by
  refine lk_met (L := [(0, lk_vr f 0), (1, lk_vi (b))]) (by decide +kernel) (Nat.le_of_ble_eq_true rfl) rfl ?_
  obtain ⟨Q, hQ⟩ : ∃ Q : lk_Q, Q = fun rr σ1 τ1 => rr = some (lk_vi 0) ∧ σ1 = σ ∧ τ1 = τ := ⟨_, rfl⟩
  rw [← hQ]
  refine lk_iload_n dX2_has_0 rfl rfl ?_
  refine lk_if_lt (tgt := 16) dX2_has_1 (by decide) (fun hh1 => ?_) (fun hh1 => ?_)
  ·
    refine lk_iconst (v := 0) dX2_has_16 (by decide) ?_
    refine lk_iret .boolean dX2_has_17 rfl rfl ?_
    rw [hQ]
    first | exact ⟨rfl, rfl, rfl⟩ | (exfalso; simp_all [Int32.not_lt, Int32.not_le]; done)
  ·
    refine lk_iload_n dX2_has_4 rfl rfl ?_
    refine lk_aload_n dX2_has_5 rfl rfl ?_
    refine lk_getI (f := 5) dX2_has_6 hf fX2_28 (by decide) (by decide) ?_
    refine lk_icmp_ge (tgt := 16) dX2_has_9 (by decide) (fun hh2 => ?_) (fun hh2 => ?_)
    ·
      refine lk_iconst (v := 0) dX2_has_16 (by decide) ?_
      refine lk_iret .boolean dX2_has_17 rfl rfl ?_
      rw [hQ]
      first | exact ⟨rfl, rfl, rfl⟩ | (exfalso; simp_all [Int32.not_lt, Int32.not_le]; done)
    ·
      refine lk_iconst (v := 1) dX2_has_12 (by decide) ?_
      refine lk_goto (tgt := 17) dX2_has_13 (by decide) ?_
      refine lk_iret .boolean dX2_has_17 rfl rfl ?_
      rw [hQ]
      first | exact ⟨rfl, rfl, rfl⟩ | (exfalso; simp_all [Int32.not_lt, Int32.not_le]; done)

set_option maxHeartbeats 1000000 in
set_option maxRecDepth 100000 in
theorem tX2_copyFrom (l : Launch) (X : lk_G) (d : Nat) (σ : lk_N) (τ : lk_T) (f : Nat) (hf : lk_ko f = 2) (o : Nat) (ho : lk_ko o = 2) (hfo : ¬ f = o) (h01 : ∀ i, i < 22 → σ o 3 i = 0 ∨ σ o 3 i = 1) : lk_Mt l X mX2_copyFrom (d + 2) [lk_vr f 0, lk_vr o 0] σ τ (fun rr σ1 τ1 => rr = none ∧ σ1 = lk_so σ f (σ o) ∧ τ1 = τ) := by
  refine lk_met (L := [(0, lk_vr f 0), (1, lk_vr o 0)]) (by decide +kernel) (Nat.le_of_ble_eq_true rfl) rfl ?_
  obtain ⟨Q, hQ⟩ : ∃ Q : lk_Q, Q = fun rr σ1 τ1 => rr = none ∧ σ1 = lk_so σ f (σ o) ∧ τ1 = τ := ⟨_, rfl⟩
  rw [← hQ]
  have hof : ¬ o = f := fun e => hfo e.symm
  refine lk_aload_n dX2_copyFrom_0 rfl rfl ?_
  refine lk_aload_n dX2_copyFrom_1 rfl rfl ?_
  refine lk_getI (f := 5) dX2_copyFrom_2 ho fX2_28 (by decide) (by decide) ?_
  refine lk_putI (f := 5) dX2_copyFrom_5 hf fX2_28 (by decide) (by decide) ?_
  refine lk_aload_n dX2_copyFrom_8 rfl rfl ?_
  refine lk_getR (f := 0) dX2_copyFrom_9 ho fX2_11 (by decide) (by decide) ?_
  refine lk_iconst (v := 0) dX2_copyFrom_12 (by decide) ?_
  refine lk_aload_n dX2_copyFrom_13 rfl rfl ?_
  refine lk_getR (f := 0) dX2_copyFrom_14 hf fX2_11 (by decide) (by decide) ?_
  refine lk_iconst (v := 0) dX2_copyFrom_17 (by decide) ?_
  refine lk_bipush (v := 22) dX2_copyFrom_18 (by decide) ?_
  refine lk_copy (f := 0) (f' := 0) (n := 22) (k0 := 22) dX2_copyFrom_20 lX2_32 wNatC wStaC wIniC ho (by decide) rfl hf (by decide) rfl (by decide) rfl (by decide) (by decide) (Nat.le_of_ble_eq_true rfl) ?_
  refine lk_aload_n dX2_copyFrom_23 rfl rfl ?_
  refine lk_getR (f := 1) dX2_copyFrom_24 ho fX2_15 (by decide) (by decide) ?_
  refine lk_iconst (v := 0) dX2_copyFrom_27 (by decide) ?_
  refine lk_aload_n dX2_copyFrom_28 rfl rfl ?_
  refine lk_getR (f := 1) dX2_copyFrom_29 hf fX2_15 (by decide) (by decide) ?_
  refine lk_iconst (v := 0) dX2_copyFrom_32 (by decide) ?_
  refine lk_bipush (v := 22) dX2_copyFrom_33 (by decide) ?_
  refine lk_copy (f := 1) (f' := 1) (n := 22) (k0 := 22) dX2_copyFrom_35 lX2_32 wNatC wStaC wIniC ho (by decide) rfl hf (by decide) rfl (by decide) rfl (by decide) (by decide) (Nat.le_of_ble_eq_true rfl) ?_
  refine lk_aload_n dX2_copyFrom_38 rfl rfl ?_
  refine lk_getR (f := 2) dX2_copyFrom_39 ho fX2_18 (by decide) (by decide) ?_
  refine lk_iconst (v := 0) dX2_copyFrom_42 (by decide) ?_
  refine lk_aload_n dX2_copyFrom_43 rfl rfl ?_
  refine lk_getR (f := 2) dX2_copyFrom_44 hf fX2_18 (by decide) (by decide) ?_
  refine lk_iconst (v := 0) dX2_copyFrom_47 (by decide) ?_
  refine lk_bipush (v := 22) dX2_copyFrom_48 (by decide) ?_
  refine lk_copy (f := 2) (f' := 2) (n := 22) (k0 := 22) dX2_copyFrom_50 lX2_32 wNatC wStaC wIniC ho (by decide) rfl hf (by decide) rfl (by decide) rfl (by decide) (by decide) (Nat.le_of_ble_eq_true rfl) ?_
  refine lk_aload_n dX2_copyFrom_53 rfl rfl ?_
  refine lk_getR (f := 4) dX2_copyFrom_54 ho fX2_25 (by decide) (by decide) ?_
  refine lk_iconst (v := 0) dX2_copyFrom_57 (by decide) ?_
  refine lk_aload_n dX2_copyFrom_58 rfl rfl ?_
  refine lk_getR (f := 4) dX2_copyFrom_59 hf fX2_25 (by decide) (by decide) ?_
  refine lk_iconst (v := 0) dX2_copyFrom_62 (by decide) ?_
  refine lk_bipush (v := 22) dX2_copyFrom_63 (by decide) ?_
  refine lk_copy (f := 4) (f' := 4) (n := 22) (k0 := 22) dX2_copyFrom_65 lX2_32 wNatC wStaC wIniC ho (by decide) rfl hf (by decide) rfl (by decide) rfl (by decide) (by decide) (Nat.le_of_ble_eq_true rfl) ?_
  refine lk_ext (σ' := (lk_so σ f (lk_fcA (σ o) (σ f) 0))) (fun a f1 j hin => ?_) ?_
  · by_cases ha : a = f
    · subst ha
      rw [lk_so_eq]
      exact lk_fc_fin hof (lk_inr2 hf hin)
    · simp [lk_so, lk_cp, lk_up, ha]
  refine lk_iconst (v := 0) dX2_copyFrom_68 (by decide) ?_
  refine lk_istore_n (L' := [(0, lk_vr f 0), (1, lk_vr o 0), (2, lk_vi 0)]) dX2_copyFrom_69 rfl (by decide +kernel) rfl ?_
  have LP70 : ∀ (fu : Nat) (i : Nat), i ≤ 22 → 22 - i < fu → lk_W l X mX2_copyFrom (d + 2) 70 [(0, lk_vr f 0), (1, lk_vr o 0), (2, lk_vi (nI (i)))] [] (lk_so σ f (lk_fcA (σ o) (σ f) i)) τ Q := by
    intro fu
    induction fu with
    | zero => intro i hi hfu; exact absurd hfu (by omega)
    | succ fu ih =>
      intro i hi hfu
      refine lk_iload_n dX2_copyFrom_70 rfl rfl ?_
      refine lk_bipush (v := 22) dX2_copyFrom_71 (by decide) ?_
      refine lk_icmp_geN (a := i) (b := 22) (tgt := 94) dX2_copyFrom_73 (by decide) (by omega) (by omega) (fun hh1 => ?_) (fun hh1 => ?_)
      ·
        have hi6 : i = 22 := by omega
        subst hi6
        refine lk_ext (σ' := lk_so σ f (σ o)) (fun a f1 j hin => ?_) ?_
        · by_cases ha : a = f
          · subst ha
            rw [lk_so_eq, lk_so_eq]
            exact lk_fc_end (lk_inr2 hf hin)
          · simp [lk_so, ha]
        refine lk_vret dX2_copyFrom_94 rfl ?_
        rw [hQ]
        exact ⟨by first | rfl | (simp [*]; done) | (simp_all; done) | grind, by first | rfl | (simp [*]; done), rfl⟩
      ·
        refine lk_aload_n dX2_copyFrom_76 rfl rfl ?_
        refine lk_getR (f := 3) dX2_copyFrom_77 hf fX2_21 (by decide) (by decide) ?_
        refine lk_iload_n dX2_copyFrom_80 rfl rfl ?_
        refine lk_aload_n dX2_copyFrom_81 rfl rfl ?_
        refine lk_getR (f := 3) dX2_copyFrom_82 ho fX2_21 (by decide) (by decide) ?_
        refine lk_iload_n dX2_copyFrom_85 rfl rfl ?_
        refine lk_zaldN (f := 3) (i := i) dX2_copyFrom_86 ho (by decide) rfl (by omega) (by decide) ?_
        refine lk_eqtop (y := (σ o 3 i)) (by rw [lk_so_ne hof]) ?_
        refine lk_zastN (f := 3) (i := i) (v := (σ o 3 i)) dX2_copyFrom_87 hf (by decide) rfl (by omega) (by decide) (h01 i (by omega)) ?_
        refine lk_iincN (a := i) (m := 1) (L' := [(0, lk_vr f 0), (1, lk_vr o 0), (2, lk_vi (nI (i + 1)))]) dX2_copyFrom_88 rfl rfl (by decide +kernel) rfl ?_
        refine lk_goto (tgt := 70) dX2_copyFrom_91 (by decide) ?_
        rw [lk_fcA_s]
        exact ih (i + 1) (by omega) (by omega)
  exact LP70 23 0 (by omega) (by omega)

set_option maxHeartbeats 1000000 in
set_option maxRecDepth 100000 in
theorem tX2_numberOf (l : Launch) (X : lk_G) (d : Nat) (σ : lk_N) (τ : lk_T) (f : Nat) (hf : lk_ko f = 2) (n : Nat) (w : Int32) (hn : σ f 5 0 = nI n) (hn22 : n ≤ 22) : lk_Mt l X mX2_numberOf d [lk_vr f 0, lk_vi (w)] σ τ (fun rr σ1 τ1 => rr = some (lk_vi (lk_fno (σ f) w n 0)) ∧ σ1 = σ ∧ τ1 = τ) := by
  refine lk_met (L := [(0, lk_vr f 0), (1, lk_vi (w))]) (by decide +kernel) (Nat.le_of_ble_eq_true rfl) rfl ?_
  obtain ⟨Q, hQ⟩ : ∃ Q : lk_Q, Q = fun rr σ1 τ1 => rr = some (lk_vi (lk_fno (σ f) w n 0)) ∧ σ1 = σ ∧ τ1 = τ := ⟨_, rfl⟩
  rw [← hQ]
  refine lk_iconst (v := 0) dX2_numberOf_0 (by decide) ?_
  refine lk_istore_n (L' := [(0, lk_vr f 0), (1, lk_vi (w)), (2, lk_vi 0)]) dX2_numberOf_1 rfl (by decide +kernel) rfl ?_
  have LP2 : ∀ (fu : Nat) (b : Nat), b ≤ n → lk_fno (σ f) w n 0 = lk_fno (σ f) w (n - b) b → n - b < fu → lk_W l X mX2_numberOf d 2 [(0, lk_vr f 0), (1, lk_vi (w)), (2, lk_vi (nI (b)))] [] σ τ Q := by
    intro fu
    induction fu with
    | zero => intro b hb hI hfu; exact absurd hfu (by omega)
    | succ fu ih =>
      intro b hb hI hfu
      refine lk_iload_n dX2_numberOf_2 rfl rfl ?_
      refine lk_aload_n dX2_numberOf_3 rfl rfl ?_
      refine lk_getIv (v := nI (n)) (f := 5) dX2_numberOf_4 hf fX2_28 (by decide) (by decide) hn ?_
      refine lk_icmp_geN (a := b) (b := n) (tgt := 28) dX2_numberOf_7 (by decide) (by omega) (by omega) (fun hh1 => ?_) (fun hh1 => ?_)
      ·
        refine lk_bipush (v := (-2)) dX2_numberOf_28 (by decide) ?_
        refine lk_iret .int dX2_numberOf_30 rfl rfl ?_
        rw [hQ]
        rw [show n - b = 0 by omega] at hI
        conv at hI => rhs; rw [lk_fno]
        exact ⟨by rw [hI], rfl, rfl⟩
      ·
        refine lk_aload_n dX2_numberOf_10 rfl rfl ?_
        refine lk_getR (f := 0) dX2_numberOf_11 hf fX2_11 (by decide) (by decide) ?_
        refine lk_iload_n dX2_numberOf_14 rfl rfl ?_
        refine lk_ialdN (f := 0) (i := b) dX2_numberOf_15 hf (by decide) rfl (by omega) (by decide) ?_
        refine lk_iload_n dX2_numberOf_16 rfl rfl ?_
        refine lk_icmp_ne (tgt := 22) dX2_numberOf_17 (by decide) (fun hh2 => ?_) (fun hh2 => ?_)
        ·
          refine lk_iincN (a := b) (m := 1) (L' := [(0, lk_vr f 0), (1, lk_vi (w)), (2, lk_vi (nI (b + 1)))]) dX2_numberOf_22 rfl rfl (by decide +kernel) rfl ?_
          refine lk_goto (tgt := 2) dX2_numberOf_25 (by decide) ?_
          rw [show n - b = (n - (b + 1)) + 1 by omega] at hI
          conv at hI => rhs; rw [lk_fno]
          rw [if_neg (by assumption)] at hI
          exact ih (b + 1) (by omega) hI (by omega)
        ·
          refine lk_iload_n dX2_numberOf_20 rfl rfl ?_
          refine lk_iret .int dX2_numberOf_21 rfl rfl ?_
          rw [hQ]
          rw [show n - b = (n - (b + 1)) + 1 by omega] at hI
          conv at hI => rhs; rw [lk_fno]
          rw [if_pos (by assumption)] at hI
          exact ⟨by rw [hI], rfl, rfl⟩
  exact LP2 (n + 1) 0 (by omega) rfl (by omega)

set_option maxHeartbeats 1000000 in
set_option maxRecDepth 100000 in
theorem tX2_copyRow (l : Launch) (X : lk_G) (d : Nat) (σ : lk_N) (τ : lk_T) (f : Nat) (hf : lk_ko f = 2) (a b : Nat) (ha : a < 22) (hb : b < 22) (h01 : σ f 3 a = 0 ∨ σ f 3 a = 1) : lk_Mt l X mX2_copyRow d [lk_vr f 0, lk_vi (nI (a)), lk_vi (nI (b))] σ τ (fun rr σ1 τ1 => rr = none ∧ σ1 = lk_so σ f (lk_fcr (σ f) a b) ∧ τ1 = τ) := by
  refine lk_met (L := [(0, lk_vr f 0), (1, lk_vi (nI (a))), (2, lk_vi (nI (b)))]) (by decide +kernel) (Nat.le_of_ble_eq_true rfl) rfl ?_
  obtain ⟨Q, hQ⟩ : ∃ Q : lk_Q, Q = fun rr σ1 τ1 => rr = none ∧ σ1 = lk_so σ f (lk_fcr (σ f) a b) ∧ τ1 = τ := ⟨_, rfl⟩
  rw [← hQ]
  refine lk_aload_n dX2_copyRow_0 rfl rfl ?_
  refine lk_getR (f := 0) dX2_copyRow_1 hf fX2_11 (by decide) (by decide) ?_
  refine lk_iload_n dX2_copyRow_4 rfl rfl ?_
  refine lk_aload_n dX2_copyRow_5 rfl rfl ?_
  refine lk_getR (f := 0) dX2_copyRow_6 hf fX2_11 (by decide) (by decide) ?_
  refine lk_iload_n dX2_copyRow_9 rfl rfl ?_
  refine lk_ialdN (f := 0) (i := a) dX2_copyRow_10 hf (by decide) rfl (by omega) (by decide) ?_
  refine lk_iastN (f := 0) (i := b) (v := (σ f 0 (a))) dX2_copyRow_11 hf (by decide) rfl (by omega) (by decide) ?_
  refine lk_aload_n dX2_copyRow_12 rfl rfl ?_
  refine lk_getR (f := 1) dX2_copyRow_13 hf fX2_15 (by decide) (by decide) ?_
  refine lk_iload_n dX2_copyRow_16 rfl rfl ?_
  refine lk_aload_n dX2_copyRow_17 rfl rfl ?_
  refine lk_getR (f := 1) dX2_copyRow_18 hf fX2_15 (by decide) (by decide) ?_
  refine lk_iload_n dX2_copyRow_21 rfl rfl ?_
  refine lk_ialdN (f := 1) (i := a) dX2_copyRow_22 hf (by decide) rfl (by omega) (by decide) ?_
  refine lk_iastN (f := 1) (i := b) (v := ((lk_up σ f 0 (b) (σ f 0 (a))) f 1 (a))) dX2_copyRow_23 hf (by decide) rfl (by omega) (by decide) ?_
  refine lk_aload_n dX2_copyRow_24 rfl rfl ?_
  refine lk_getR (f := 2) dX2_copyRow_25 hf fX2_18 (by decide) (by decide) ?_
  refine lk_iload_n dX2_copyRow_28 rfl rfl ?_
  refine lk_aload_n dX2_copyRow_29 rfl rfl ?_
  refine lk_getR (f := 2) dX2_copyRow_30 hf fX2_18 (by decide) (by decide) ?_
  refine lk_iload_n dX2_copyRow_33 rfl rfl ?_
  refine lk_ialdN (f := 2) (i := a) dX2_copyRow_34 hf (by decide) rfl (by omega) (by decide) ?_
  refine lk_iastN (f := 2) (i := b) (v := ((lk_up (lk_up σ f 0 (b) (σ f 0 (a))) f 1 (b) ((lk_up σ f 0 (b) (σ f 0 (a))) f 1 (a))) f 2 (a))) dX2_copyRow_35 hf (by decide) rfl (by omega) (by decide) ?_
  refine lk_aload_n dX2_copyRow_36 rfl rfl ?_
  refine lk_getR (f := 3) dX2_copyRow_37 hf fX2_21 (by decide) (by decide) ?_
  refine lk_iload_n dX2_copyRow_40 rfl rfl ?_
  refine lk_aload_n dX2_copyRow_41 rfl rfl ?_
  refine lk_getR (f := 3) dX2_copyRow_42 hf fX2_21 (by decide) (by decide) ?_
  refine lk_iload_n dX2_copyRow_45 rfl rfl ?_
  refine lk_zaldN (f := 3) (i := a) dX2_copyRow_46 hf (by decide) rfl (by omega) (by decide) ?_
  refine lk_zastN (f := 3) (i := b) (v := ((lk_up (lk_up (lk_up σ f 0 (b) (σ f 0 (a))) f 1 (b) ((lk_up σ f 0 (b) (σ f 0 (a))) f 1 (a))) f 2 (b) ((lk_up (lk_up σ f 0 (b) (σ f 0 (a))) f 1 (b) ((lk_up σ f 0 (b) (σ f 0 (a))) f 1 (a))) f 2 (a))) f 3 (a))) dX2_copyRow_47 hf (by decide) rfl (by omega) (by decide) (by simp [lk_up]; exact h01) ?_
  refine lk_aload_n dX2_copyRow_48 rfl rfl ?_
  refine lk_getR (f := 4) dX2_copyRow_49 hf fX2_25 (by decide) (by decide) ?_
  refine lk_iload_n dX2_copyRow_52 rfl rfl ?_
  refine lk_aload_n dX2_copyRow_53 rfl rfl ?_
  refine lk_getR (f := 4) dX2_copyRow_54 hf fX2_25 (by decide) (by decide) ?_
  refine lk_iload_n dX2_copyRow_57 rfl rfl ?_
  refine lk_ialdN (f := 4) (i := a) dX2_copyRow_58 hf (by decide) rfl (by omega) (by decide) ?_
  refine lk_iastN (f := 4) (i := b) (v := ((lk_up (lk_up (lk_up (lk_up σ f 0 (b) (σ f 0 (a))) f 1 (b) ((lk_up σ f 0 (b) (σ f 0 (a))) f 1 (a))) f 2 (b) ((lk_up (lk_up σ f 0 (b) (σ f 0 (a))) f 1 (b) ((lk_up σ f 0 (b) (σ f 0 (a))) f 1 (a))) f 2 (a))) f 3 (b) ((lk_up (lk_up (lk_up σ f 0 (b) (σ f 0 (a))) f 1 (b) ((lk_up σ f 0 (b) (σ f 0 (a))) f 1 (a))) f 2 (b) ((lk_up (lk_up σ f 0 (b) (σ f 0 (a))) f 1 (b) ((lk_up σ f 0 (b) (σ f 0 (a))) f 1 (a))) f 2 (a))) f 3 (a))) f 4 (a))) dX2_copyRow_59 hf (by decide) rfl (by omega) (by decide) ?_
  refine lk_vret dX2_copyRow_60 rfl ?_
  rw [hQ]
  refine ⟨rfl, ?_, rfl⟩
  simp only [lk_up_so, lk_so_so, lk_so_eq]
  congr 1; funext g j
  simp only [lk_ou, lk_fcr]
  grind (splits := 24)

set_option maxHeartbeats 1000000 in
set_option maxRecDepth 100000 in
theorem tX2_sizeOf (l : Launch) (X : lk_G) (d : Nat) (σ : lk_N) (τ : lk_T) (f : Nat) (hf : lk_ko f = 2) (n b : Nat) (hn : σ f 5 0 = nI n) (hb : b < n) (hn22 : n ≤ 22) : lk_Mt l X mX2_sizeOf (d + 1) [lk_vr f 0, lk_vi (nI (b))] σ τ (fun rr σ1 τ1 => rr = some (lk_vi (σ f 1 b)) ∧ σ1 = σ ∧ τ1 = τ) := by
  refine lk_met (L := [(0, lk_vr f 0), (1, lk_vi (nI (b)))]) (by decide +kernel) (Nat.le_of_ble_eq_true rfl) rfl ?_
  obtain ⟨Q, hQ⟩ : ∃ Q : lk_Q, Q = fun rr σ1 τ1 => rr = some (lk_vi (σ f 1 b)) ∧ σ1 = σ ∧ τ1 = τ := ⟨_, rfl⟩
  rw [← hQ]
  refine lk_aload_n dX2_sizeOf_0 rfl rfl ?_
  refine lk_iload_n dX2_sizeOf_1 rfl rfl ?_
  refine lk_callV (o := f) (as := [lk_vi (nI (b))]) (S := []) dX2_sizeOf_2 rfl vX2_has rfl lX2_59 hf rfl (Nat.le_of_ble_eq_true rfl) (tX2_has_in l X d σ τ (f := f) (b := (b)) (hf := hf) (n := n) (hn := hn) (hb := hb) (hn22 := hn22)) ?_
  refine lk_k3 ?_
  refine lk_cast (pc' := 5) (S' := [lk_vi 1]) rfl rfl rfl ?_
  refine lk_if_eq (tgt := 17) dX2_sizeOf_5 (by decide) (fun hh1 => absurd hh1 (by decide)) (fun hh1 => ?_)
  refine lk_aload_n dX2_sizeOf_8 rfl rfl ?_
  refine lk_getR (f := 1) dX2_sizeOf_9 hf fX2_15 (by decide) (by decide) ?_
  refine lk_iload_n dX2_sizeOf_12 rfl rfl ?_
  refine lk_ialdN (f := 1) (i := b) dX2_sizeOf_13 hf (by decide) rfl (by omega) (by decide) ?_
  refine lk_goto (tgt := 18) dX2_sizeOf_14 (by decide) ?_
  refine lk_iret .int dX2_sizeOf_18 rfl rfl ?_
  rw [hQ]
  exact ⟨by first | rfl | (simp [*]; done) | (simp_all; done) | grind, by first | rfl | (simp [*]; done), rfl⟩

set_option maxHeartbeats 1000000 in
set_option maxRecDepth 100000 in
theorem tX2_rankOf (l : Launch) (X : lk_G) (d : Nat) (σ : lk_N) (τ : lk_T) (f : Nat) (hf : lk_ko f = 2) (n b : Nat) (hn : σ f 5 0 = nI n) (hb : b < n) (hn22 : n ≤ 22) : lk_Mt l X mX2_rankOf (d + 1) [lk_vr f 0, lk_vi (nI (b))] σ τ (fun rr σ1 τ1 => rr = some (lk_vi (σ f 2 b)) ∧ σ1 = σ ∧ τ1 = τ) := by
  refine lk_met (L := [(0, lk_vr f 0), (1, lk_vi (nI (b)))]) (by decide +kernel) (Nat.le_of_ble_eq_true rfl) rfl ?_
  obtain ⟨Q, hQ⟩ : ∃ Q : lk_Q, Q = fun rr σ1 τ1 => rr = some (lk_vi (σ f 2 b)) ∧ σ1 = σ ∧ τ1 = τ := ⟨_, rfl⟩
  rw [← hQ]
  refine lk_aload_n dX2_rankOf_0 rfl rfl ?_
  refine lk_iload_n dX2_rankOf_1 rfl rfl ?_
  refine lk_callV (o := f) (as := [lk_vi (nI (b))]) (S := []) dX2_rankOf_2 rfl vX2_has rfl lX2_59 hf rfl (Nat.le_of_ble_eq_true rfl) (tX2_has_in l X d σ τ (f := f) (b := (b)) (hf := hf) (n := n) (hn := hn) (hb := hb) (hn22 := hn22)) ?_
  refine lk_k3 ?_
  refine lk_cast (pc' := 5) (S' := [lk_vi 1]) rfl rfl rfl ?_
  refine lk_if_eq (tgt := 17) dX2_rankOf_5 (by decide) (fun hh1 => absurd hh1 (by decide)) (fun hh1 => ?_)
  refine lk_aload_n dX2_rankOf_8 rfl rfl ?_
  refine lk_getR (f := 2) dX2_rankOf_9 hf fX2_18 (by decide) (by decide) ?_
  refine lk_iload_n dX2_rankOf_12 rfl rfl ?_
  refine lk_ialdN (f := 2) (i := b) dX2_rankOf_13 hf (by decide) rfl (by omega) (by decide) ?_
  refine lk_goto (tgt := 18) dX2_rankOf_14 (by decide) ?_
  refine lk_iret .int dX2_rankOf_18 rfl rfl ?_
  rw [hQ]
  exact ⟨by first | rfl | (simp [*]; done) | (simp_all; done) | grind, by first | rfl | (simp [*]; done), rfl⟩

set_option maxHeartbeats 1000000 in
set_option maxRecDepth 100000 in
theorem tX2_moveOn (l : Launch) (X : lk_G) (d : Nat) (σ : lk_N) (τ : lk_T) (f : Nat) (hf : lk_ko f = 2) (n b : Nat) (hn : σ f 5 0 = nI n) (hb : b < n) (hn22 : n ≤ 22) (r : Int32) : lk_Mt l X mX2_moveOn (d + 1) [lk_vr f 0, lk_vi (nI (b)), lk_vi (r)] σ τ (fun rr σ1 τ1 => rr = none ∧ σ1 = lk_up σ f 4 b (σ f 4 b + if σ f 3 b = 0 then 0 - r else r) ∧ τ1 = τ) := by
  refine lk_met (L := [(0, lk_vr f 0), (1, lk_vi (nI (b))), (2, lk_vi (r))]) (by decide +kernel) (Nat.le_of_ble_eq_true rfl) rfl ?_
  obtain ⟨Q, hQ⟩ : ∃ Q : lk_Q, Q = fun rr σ1 τ1 => rr = none ∧ σ1 = lk_up σ f 4 b (σ f 4 b + if σ f 3 b = 0 then 0 - r else r) ∧ τ1 = τ := ⟨_, rfl⟩
  rw [← hQ]
  refine lk_aload_n dX2_moveOn_0 rfl rfl ?_
  refine lk_iload_n dX2_moveOn_1 rfl rfl ?_
  refine lk_callV (o := f) (as := [lk_vi (nI (b))]) (S := []) dX2_moveOn_2 rfl vX2_has rfl lX2_59 hf rfl (Nat.le_of_ble_eq_true rfl) (tX2_has_in l X d σ τ (f := f) (b := (b)) (hf := hf) (n := n) (hn := hn) (hb := hb) (hn22 := hn22)) ?_
  refine lk_k3 ?_
  refine lk_cast (pc' := 5) (S' := [lk_vi 1]) rfl rfl rfl ?_
  refine lk_if_eq (tgt := 32) dX2_moveOn_5 (by decide) (fun hh1 => absurd hh1 (by decide)) (fun hh1 => ?_)
  refine lk_aload_n dX2_moveOn_8 rfl rfl ?_
  refine lk_getR (f := 4) dX2_moveOn_9 hf fX2_25 (by decide) (by decide) ?_
  refine lk_iload_n dX2_moveOn_12 rfl rfl ?_
  refine lk_dup2 dX2_moveOn_13 rfl rfl ?_
  refine lk_ialdN (f := 4) (i := b) dX2_moveOn_14 hf (by decide) rfl (by omega) (by decide) ?_
  refine lk_aload_n dX2_moveOn_15 rfl rfl ?_
  refine lk_getR (f := 3) dX2_moveOn_16 hf fX2_21 (by decide) (by decide) ?_
  refine lk_iload_n dX2_moveOn_19 rfl rfl ?_
  refine lk_zaldN (f := 3) (i := b) dX2_moveOn_20 hf (by decide) rfl (by omega) (by decide) ?_
  refine lk_if_eq (tgt := 28) dX2_moveOn_21 (by decide) (fun hh2 => ?_) (fun hh2 => ?_)
  ·
    refine lk_iload_n dX2_moveOn_28 rfl rfl ?_
    refine lk_ineg dX2_moveOn_29 ?_
    refine lk_iadd dX2_moveOn_30 ?_
    refine lk_iastN (f := 4) (i := b) (v := ((σ f 4 (b)) + (0 - (r)))) dX2_moveOn_31 hf (by decide) rfl (by omega) (by decide) ?_
    refine lk_vret dX2_moveOn_32 rfl ?_
    rw [hQ]
    refine ⟨rfl, ?_, rfl⟩
    first | rw [if_pos (by assumption)] | rw [if_neg (by assumption)]
  ·
    refine lk_iload_n dX2_moveOn_24 rfl rfl ?_
    refine lk_goto (tgt := 30) dX2_moveOn_25 (by decide) ?_
    refine lk_iadd dX2_moveOn_30 ?_
    refine lk_iastN (f := 4) (i := b) (v := ((σ f 4 (b)) + (r))) dX2_moveOn_31 hf (by decide) rfl (by omega) (by decide) ?_
    refine lk_vret dX2_moveOn_32 rfl ?_
    rw [hQ]
    refine ⟨rfl, ?_, rfl⟩
    first | rw [if_pos (by assumption)] | rw [if_neg (by assumption)]

set_option maxHeartbeats 1000000 in
set_option maxRecDepth 100000 in
theorem tX2_countIn (l : Launch) (X : lk_G) (d : Nat) (σ : lk_N) (τ : lk_T) (f : Nat) (hf : lk_ko f = 2) (n : Nat) (w : Int32) (hn : σ f 5 0 = nI n) (hn22 : n ≤ 22) : lk_Mt l X mX2_countIn d [lk_vr f 0, lk_vi (w)] σ τ (fun rr σ1 τ1 => rr = some (lk_vi (nI (lk_ct (fun b => decide (σ f 4 b = w)) n))) ∧ σ1 = σ ∧ τ1 = τ) := by
  refine lk_met (L := [(0, lk_vr f 0), (1, lk_vi (w))]) (by decide +kernel) (Nat.le_of_ble_eq_true rfl) rfl ?_
  obtain ⟨Q, hQ⟩ : ∃ Q : lk_Q, Q = fun rr σ1 τ1 => rr = some (lk_vi (nI (lk_ct (fun b => decide (σ f 4 b = w)) n))) ∧ σ1 = σ ∧ τ1 = τ := ⟨_, rfl⟩
  rw [← hQ]
  refine lk_iconst (v := 0) dX2_countIn_0 (by decide) ?_
  refine lk_istore_n (L' := [(0, lk_vr f 0), (1, lk_vi (w)), (2, lk_vi 0)]) dX2_countIn_1 rfl (by decide +kernel) rfl ?_
  refine lk_iconst (v := 0) dX2_countIn_2 (by decide) ?_
  refine lk_istore_n (L' := [(0, lk_vr f 0), (1, lk_vi (w)), (2, lk_vi 0), (3, lk_vi 0)]) dX2_countIn_3 rfl (by decide +kernel) rfl ?_
  have LP4 : ∀ (fu : Nat) (i y : Nat), i ≤ n → y = lk_ct (fun b => decide (σ f 4 b = w)) i → n - i < fu → lk_W l X mX2_countIn d 4 [(0, lk_vr f 0), (1, lk_vi (w)), (2, lk_vi (nI (y))), (3, lk_vi (nI (i)))] [] σ τ Q := by
    intro fu
    induction fu with
    | zero => intro i y hi hy hfu; exact absurd hfu (by omega)
    | succ fu ih =>
      intro i y hi hy hfu
      refine lk_iload_n dX2_countIn_4 rfl rfl ?_
      refine lk_aload_n dX2_countIn_5 rfl rfl ?_
      refine lk_getIv (v := nI (n)) (f := 5) dX2_countIn_6 hf fX2_28 (by decide) (by decide) hn ?_
      refine lk_icmp_geN (a := i) (b := n) (tgt := 31) dX2_countIn_9 (by decide) (by omega) (by omega) (fun hh1 => ?_) (fun hh1 => ?_)
      ·
        refine lk_iload_n dX2_countIn_31 rfl rfl ?_
        refine lk_iret .int dX2_countIn_32 rfl rfl ?_
        rw [hQ]
        have : i = n := by omega
        subst this
        exact ⟨by rw [hy], rfl, rfl⟩
      ·
        refine lk_aload_n dX2_countIn_12 rfl rfl ?_
        refine lk_getR (f := 4) dX2_countIn_13 hf fX2_25 (by decide) (by decide) ?_
        refine lk_iload_n dX2_countIn_16 rfl rfl ?_
        refine lk_ialdN (f := 4) (i := i) dX2_countIn_17 hf (by decide) rfl (by omega) (by decide) ?_
        refine lk_iload_n dX2_countIn_18 rfl rfl ?_
        refine lk_icmp_ne (tgt := 25) dX2_countIn_19 (by decide) (fun hh2 => ?_) (fun hh2 => ?_)
        ·
          refine lk_iincN (a := i) (m := 1) (L' := [(0, lk_vr f 0), (1, lk_vi (w)), (2, lk_vi (nI (y))), (3, lk_vi (nI (i + 1)))]) dX2_countIn_25 rfl rfl (by decide +kernel) rfl ?_
          refine lk_goto (tgt := 4) dX2_countIn_28 (by decide) ?_
          refine ih (i + 1) _ (by omega) ?_ (by omega)
          simp only [lk_ct]
          simp [*]
        ·
          refine lk_iincN (a := y) (m := 1) (L' := [(0, lk_vr f 0), (1, lk_vi (w)), (2, lk_vi (nI (y + 1))), (3, lk_vi (nI (i)))]) dX2_countIn_22 rfl rfl (by decide +kernel) rfl ?_
          refine lk_iincN (a := i) (m := 1) (L' := [(0, lk_vr f 0), (1, lk_vi (w)), (2, lk_vi (nI (y + 1))), (3, lk_vi (nI (i + 1)))]) dX2_countIn_25 rfl rfl (by decide +kernel) rfl ?_
          refine lk_goto (tgt := 4) dX2_countIn_28 (by decide) ?_
          refine ih (i + 1) _ (by omega) ?_ (by omega)
          simp only [lk_ct]
          simp [*]
  exact LP4 (n + 1) 0 0 (by omega) rfl (by omega)

set_option maxHeartbeats 1000000 in
set_option maxRecDepth 100000 in
theorem tX2_letter_in (l : Launch) (X : lk_G) (d : Nat) (σ : lk_N) (τ : lk_T) (f : Nat) (hf : lk_ko f = 2) (n b : Nat) (hn : σ f 5 0 = nI n) (hb : b < n) (hn22 : n ≤ 22) (k : Nat) (hk : k < 4) : lk_Mt l X mX2_letter (d + 1) [lk_vr f 0, lk_vi (nI (b)), lk_vi (nI (k))] σ τ (fun rr σ1 τ1 => rr = some (lk_vi (lk_lett (σ f 0 b) k)) ∧ σ1 = σ ∧ τ1 = τ) := by
  refine lk_met (L := [(0, lk_vr f 0), (1, lk_vi (nI (b))), (2, lk_vi (nI (k)))]) (by decide +kernel) (Nat.le_of_ble_eq_true rfl) rfl ?_
  obtain ⟨Q, hQ⟩ : ∃ Q : lk_Q, Q = fun rr σ1 τ1 => rr = some (lk_vi (lk_lett (σ f 0 b) k)) ∧ σ1 = σ ∧ τ1 = τ := ⟨_, rfl⟩
  rw [← hQ]
  refine lk_aload_n dX2_letter_0 rfl rfl ?_
  refine lk_iload_n dX2_letter_1 rfl rfl ?_
  refine lk_callV (o := f) (as := [lk_vi (nI (b))]) (S := []) dX2_letter_2 rfl vX2_has rfl lX2_59 hf rfl (Nat.le_of_ble_eq_true rfl) (tX2_has_in l X d σ τ (f := f) (b := (b)) (hf := hf) (n := n) (hn := hn) (hb := hb) (hn22 := hn22)) ?_
  refine lk_k3 ?_
  refine lk_cast (pc' := 5) (S' := [lk_vi 1]) rfl rfl rfl ?_
  refine lk_if_eq (tgt := 17) dX2_letter_5 (by decide) (fun hh1 => absurd hh1 (by decide)) (fun hh1 => ?_)
  refine lk_iload_n dX2_letter_8 rfl rfl ?_
  refine lk_if_ltN (a := k) (tgt := 17) dX2_letter_9 (by decide) (by omega) (fun hh2 => absurd hh2 (by omega)) (fun hh2 => ?_)
  refine lk_iload_n dX2_letter_12 rfl rfl ?_
  refine lk_iconst (v := 4) dX2_letter_13 (by decide) ?_
  refine lk_icmp_ltN (a := k) (b := 4) (tgt := 20) dX2_letter_14 (by decide) (by omega) (by omega) (fun hh3 => ?_) (fun hh3 => absurd hh3 (by omega))
  refine lk_aload_n dX2_letter_20 rfl rfl ?_
  refine lk_getR (f := 0) dX2_letter_21 hf fX2_11 (by decide) (by decide) ?_
  refine lk_iload_n dX2_letter_24 rfl rfl ?_
  refine lk_ialdN (f := 0) (i := b) dX2_letter_25 hf (by decide) rfl (by omega) (by decide) ?_
  refine lk_istore_n (L' := [(0, lk_vr f 0), (1, lk_vi (nI (b))), (2, lk_vi (nI (k))), (3, lk_vi (σ f 0 (b)))]) dX2_letter_26 rfl (by decide +kernel) rfl ?_
  refine lk_iconst (v := 3) dX2_letter_27 (by decide) ?_
  refine lk_istore (L' := [(0, lk_vr f 0), (1, lk_vi (nI (b))), (2, lk_vi (nI (k))), (3, lk_vi (σ f 0 (b))), (4, lk_vi 3)]) dX2_letter_28 (by decide +kernel) rfl ?_
  have LP30 : ∀ (fu : Nat) (j : Nat), k ≤ j → j ≤ 3 → j < fu → lk_W l X mX2_letter (d + 1) 30 [(0, lk_vr f 0), (1, lk_vi (nI (b))), (2, lk_vi (nI (k))), (3, lk_vi (lk_dv (σ f 0 b) (3 - j))), (4, lk_vi (nI (j)))] [] σ τ Q := by
    intro fu
    induction fu with
    | zero => intro j hj hj3 hfu; exact absurd hfu (by omega)
    | succ fu ih =>
      intro j hj hj3 hfu
      refine lk_iload dX2_letter_30 rfl ?_
      refine lk_iload_n dX2_letter_32 rfl rfl ?_
      refine lk_icmp_leN (a := j) (b := k) (tgt := 47) dX2_letter_33 (by decide) (by omega) (by omega) (fun hh4 => ?_) (fun hh4 => ?_)
      ·
        refine lk_iload_n dX2_letter_47 rfl rfl ?_
        refine lk_bipush (v := 27) dX2_letter_48 (by decide) ?_
        refine lk_irem dX2_letter_50 (by decide) ?_
        refine lk_istore (L' := [(0, lk_vr f 0), (1, lk_vi (nI (b))), (2, lk_vi (nI (k))), (3, lk_vi (lk_dv (σ f 0 b) (3 - j))), (4, lk_vi ((lk_dv (σ f 0 b) (3 - j)) - (lk_dv (σ f 0 b) (3 - j)) / 27 * 27))]) dX2_letter_51 (by decide +kernel) rfl ?_
        refine lk_iload dX2_letter_53 rfl ?_
        refine lk_if_ne (tgt := 63) dX2_letter_55 (by decide) (fun hh5 => ?_) (fun hh5 => ?_)
        ·
          refine lk_bipush (v := 96) dX2_letter_63 (by decide) ?_
          refine lk_iload dX2_letter_65 rfl ?_
          refine lk_iadd dX2_letter_67 ?_
          refine lk_iret .int dX2_letter_68 rfl rfl ?_
          rw [hQ]
          have : j = k := by omega
          subst this
          refine ⟨?_, rfl, rfl⟩
          unfold lk_lett lk_let
          first | rw [if_pos (by assumption)] | rw [if_neg (by assumption)]
        ·
          refine lk_bipush (v := (-2)) dX2_letter_58 (by decide) ?_
          refine lk_goto (tgt := 68) dX2_letter_60 (by decide) ?_
          refine lk_iret .int dX2_letter_68 rfl rfl ?_
          rw [hQ]
          have : j = k := by omega
          subst this
          refine ⟨?_, rfl, rfl⟩
          unfold lk_lett lk_let
          first | rw [if_pos (by assumption)] | rw [if_neg (by assumption)]
      ·
        refine lk_iload_n dX2_letter_36 rfl rfl ?_
        refine lk_bipush (v := 27) dX2_letter_37 (by decide) ?_
        refine lk_idiv dX2_letter_39 (by decide) ?_
        refine lk_istore_n (L' := [(0, lk_vr f 0), (1, lk_vi (nI (b))), (2, lk_vi (nI (k))), (3, lk_vi ((lk_dv (σ f 0 b) (3 - j)) / 27)), (4, lk_vi (nI (j)))]) dX2_letter_40 rfl (by decide +kernel) rfl ?_
        refine lk_idecN (a := j) (m := 1) (L' := [(0, lk_vr f 0), (1, lk_vi (nI (b))), (2, lk_vi (nI (k))), (3, lk_vi ((lk_dv (σ f 0 b) (3 - j)) / 27)), (4, lk_vi (nI (j - 1)))]) dX2_letter_41 rfl rfl (by omega) (by decide +kernel) rfl ?_
        refine lk_goto (tgt := 30) dX2_letter_44 (by decide) ?_
        refine lk_cast (L' := [(0, lk_vr f 0), (1, lk_vi (nI b)), (2, lk_vi (nI k)), (3, lk_vi (lk_dv (σ f 0 b) (3 - (j - 1)))), (4, lk_vi (nI (j - 1)))]) rfl (by rw [show 3 - (j - 1) = (3 - j) + 1 by omega]; rfl) rfl ?_
        exact ih (j - 1) (by omega) (by omega) (by omega)
  exact LP30 4 3 (by omega) (by omega) (by omega)

set_option maxHeartbeats 1000000 in
set_option maxRecDepth 100000 in
theorem tX2_letter_out (l : Launch) (X : lk_G) (d : Nat) (σ : lk_N) (τ : lk_T) (f : Nat) (hf : lk_ko f = 2) (n b : Nat) (hn : σ f 5 0 = nI n) (hb : b < n) (hn22 : n ≤ 22) (k : Int32) (hk : 4 ≤ k) : lk_Mt l X mX2_letter (d + 1) [lk_vr f 0, lk_vi (nI (b)), lk_vi (k)] σ τ (fun rr σ1 τ1 => rr = some (lk_vi (-2)) ∧ σ1 = σ ∧ τ1 = τ) := by
  refine lk_met (L := [(0, lk_vr f 0), (1, lk_vi (nI (b))), (2, lk_vi (k))]) (by decide +kernel) (Nat.le_of_ble_eq_true rfl) rfl ?_
  obtain ⟨Q, hQ⟩ : ∃ Q : lk_Q, Q = fun rr σ1 τ1 => rr = some (lk_vi (-2)) ∧ σ1 = σ ∧ τ1 = τ := ⟨_, rfl⟩
  rw [← hQ]
  refine lk_aload_n dX2_letter_0 rfl rfl ?_
  refine lk_iload_n dX2_letter_1 rfl rfl ?_
  refine lk_callV (o := f) (as := [lk_vi (nI (b))]) (S := []) dX2_letter_2 rfl vX2_has rfl lX2_59 hf rfl (Nat.le_of_ble_eq_true rfl) (tX2_has_in l X d σ τ (f := f) (b := (b)) (hf := hf) (n := n) (hn := hn) (hb := hb) (hn22 := hn22)) ?_
  refine lk_k3 ?_
  refine lk_cast (pc' := 5) (S' := [lk_vi 1]) rfl rfl rfl ?_
  refine lk_if_eq (tgt := 17) dX2_letter_5 (by decide) (fun hh1 => absurd hh1 (by decide)) (fun hh1 => ?_)
  refine lk_iload_n dX2_letter_8 rfl rfl ?_
  refine lk_if_lt (tgt := 17) dX2_letter_9 (by decide) (fun hh2 => ?_) (fun hh2 => ?_)
  ·
    refine lk_bipush (v := (-2)) dX2_letter_17 (by decide) ?_
    refine lk_iret .int dX2_letter_19 rfl rfl ?_
    rw [hQ]
    first | exact ⟨rfl, rfl, rfl⟩ | (exfalso; simp_all [Int32.not_lt, Int32.not_le]; done)
  ·
    refine lk_iload_n dX2_letter_12 rfl rfl ?_
    refine lk_iconst (v := 4) dX2_letter_13 (by decide) ?_
    refine lk_icmp_lt (tgt := 20) dX2_letter_14 (by decide) (fun hh3 => absurd hh3 (Int32.not_lt.mpr hk)) (fun hh3 => ?_)
    refine lk_bipush (v := (-2)) dX2_letter_17 (by decide) ?_
    refine lk_iret .int dX2_letter_19 rfl rfl ?_
    rw [hQ]
    first | exact ⟨rfl, rfl, rfl⟩ | (exfalso; simp_all [Int32.not_lt, Int32.not_le]; done)

set_option maxHeartbeats 1000000 in
set_option maxRecDepth 100000 in
theorem tX2_letterCount (l : Launch) (X : lk_G) (d : Nat) (σ : lk_N) (τ : lk_T) (f : Nat) (hf : lk_ko f = 2) (n b : Nat) (hn : σ f 5 0 = nI n) (hb : b < n) (hn22 : n ≤ 22) : lk_Mt l X mX2_letterCount (d + 2) [lk_vr f 0, lk_vi (nI (b))] σ τ (fun rr σ1 τ1 => rr = some (lk_vi (nI (lk_lcn (σ f 0 b) 4 0))) ∧ σ1 = σ ∧ τ1 = τ) := by
  refine lk_met (L := [(0, lk_vr f 0), (1, lk_vi (nI (b)))]) (by decide +kernel) (Nat.le_of_ble_eq_true rfl) rfl ?_
  obtain ⟨Q, hQ⟩ : ∃ Q : lk_Q, Q = fun rr σ1 τ1 => rr = some (lk_vi (nI (lk_lcn (σ f 0 b) 4 0))) ∧ σ1 = σ ∧ τ1 = τ := ⟨_, rfl⟩
  rw [← hQ]
  refine lk_iconst (v := 0) dX2_letterCount_0 (by decide) ?_
  refine lk_istore_n (L' := [(0, lk_vr f 0), (1, lk_vi (nI (b))), (2, lk_vi 0)]) dX2_letterCount_1 rfl (by decide +kernel) rfl ?_
  have LP2 : ∀ (fu : Nat) (k : Nat), k ≤ 4 → lk_lcn (σ f 0 b) 4 0 = lk_lcn (σ f 0 b) (4 - k) k → 4 - k < fu → lk_W l X mX2_letterCount (d + 2) 2 [(0, lk_vr f 0), (1, lk_vi (nI (b))), (2, lk_vi (nI (k)))] [] σ τ Q := by
    intro fu
    induction fu with
    | zero => intro k hk hI hfu; exact absurd hfu (by omega)
    | succ fu ih =>
      intro k hk hI hfu
      refine lk_iload_n dX2_letterCount_2 rfl rfl ?_
      refine lk_iconst (v := 4) dX2_letterCount_3 (by decide) ?_
      refine lk_icmp_geN (a := k) (b := 4) (tgt := 24) dX2_letterCount_4 (by decide) (by omega) (by omega) (fun hh1 => ?_) (fun hh1 => ?_)
      ·
        refine lk_iload_n dX2_letterCount_24 rfl rfl ?_
        refine lk_iret .int dX2_letterCount_25 rfl rfl ?_
        rw [hQ]
        by_cases hk4 : k = 4
        · subst hk4
          exact ⟨by rw [hI]; rfl, rfl, rfl⟩
        · rw [show 4 - k = (4 - (k + 1)) + 1 by omega] at hI
          conv at hI => rhs; rw [lk_lcn]
          first | (exfalso; omega) | (rw [if_pos (by assumption)] at hI
                                      exact ⟨by rw [hI], rfl, rfl⟩)
      ·
        refine lk_aload_n dX2_letterCount_7 rfl rfl ?_
        refine lk_iload_n dX2_letterCount_8 rfl rfl ?_
        refine lk_iload_n dX2_letterCount_9 rfl rfl ?_
        refine lk_callV (o := f) (as := [lk_vi (nI (b)), lk_vi (nI (k))]) (S := []) dX2_letterCount_10 rfl vX2_letter rfl lX2_66 hf rfl (Nat.le_of_ble_eq_true rfl) (tX2_letter_in l X d σ τ (f := f) (b := (b)) (k := (k)) (hf := hf) (n := n) (hn := hn) (hb := hb) (hn22 := hn22) (hk := by omega)) ?_
        refine lk_k3 ?_
        refine lk_cast (pc' := 13) (S' := [lk_vi (lk_lett (σ f 0 (b)) (k))]) rfl rfl rfl ?_
        refine lk_bipush (v := (-2)) dX2_letterCount_13 (by decide) ?_
        refine lk_icmp_eq (tgt := 24) dX2_letterCount_15 (by decide) (fun hh2 => ?_) (fun hh2 => ?_)
        ·
          refine lk_iload_n dX2_letterCount_24 rfl rfl ?_
          refine lk_iret .int dX2_letterCount_25 rfl rfl ?_
          rw [hQ]
          by_cases hk4 : k = 4
          · subst hk4
            exact ⟨by rw [hI]; rfl, rfl, rfl⟩
          · rw [show 4 - k = (4 - (k + 1)) + 1 by omega] at hI
            conv at hI => rhs; rw [lk_lcn]
            first | (exfalso; omega) | (rw [if_pos (by assumption)] at hI
                                        exact ⟨by rw [hI], rfl, rfl⟩)
        ·
          refine lk_iincN (a := k) (m := 1) (L' := [(0, lk_vr f 0), (1, lk_vi (nI (b))), (2, lk_vi (nI (k + 1)))]) dX2_letterCount_18 rfl rfl (by decide +kernel) rfl ?_
          refine lk_goto (tgt := 2) dX2_letterCount_21 (by decide) ?_
          rw [show 4 - k = (4 - (k + 1)) + 1 by omega] at hI
          conv at hI => rhs; rw [lk_lcn]
          rw [if_neg (by assumption)] at hI
          exact ih (k + 1) (by omega) hI (by omega)
  exact LP2 5 0 (by omega) rfl (by omega)

set_option maxHeartbeats 1000000 in
set_option maxRecDepth 100000 in
theorem tX2_number (l : Launch) (X : lk_G) (d : Nat) (σ : lk_N) (τ : lk_T) (f : Nat) (hf : lk_ko f = 2) (n b : Nat) (hn : σ f 5 0 = nI n) (hb : b < n) (hn22 : n ≤ 22) (w : Nat) (hw : w ≤ 4) : lk_Mt l X mX2_number (d + 3) [lk_vr f 0, lk_vi (nI (b)), lk_vi (nI (w))] σ τ (fun rr σ1 τ1 => rr = some (lk_vi (lk_fnum (σ f) b w)) ∧ σ1 = σ ∧ τ1 = τ) := by
  refine lk_met (L := [(0, lk_vr f 0), (1, lk_vi (nI (b))), (2, lk_vi (nI (w)))]) (by decide +kernel) (Nat.le_of_ble_eq_true rfl) rfl ?_
  obtain ⟨Q, hQ⟩ : ∃ Q : lk_Q, Q = fun rr σ1 τ1 => rr = some (lk_vi (lk_fnum (σ f) b w)) ∧ σ1 = σ ∧ τ1 = τ := ⟨_, rfl⟩
  rw [← hQ]
  refine lk_iload_n dX2_number_0 rfl rfl ?_
  rcases (show w = 0 ∨ w = 1 ∨ w = 2 ∨ w = 3 ∨ (3 < w) by omega) with rfl | rfl | rfl | rfl | hh1
  ·
    refine lk_tableIn (off := 31) (tgt := 32) dX2_number_1 (by decide) (by decide) rfl (by decide) ?_
    refine lk_aload_n dX2_number_32 rfl rfl ?_
    refine lk_getR (f := 1) dX2_number_33 hf fX2_15 (by decide) (by decide) ?_
    refine lk_iload_n dX2_number_36 rfl rfl ?_
    refine lk_ialdN (f := 1) (i := b) dX2_number_37 hf (by decide) rfl (by omega) (by decide) ?_
    refine lk_iret .int dX2_number_38 rfl rfl ?_
    rw [hQ]
    first | exact ⟨rfl, rfl, rfl⟩ | (refine ⟨?_, rfl, rfl⟩; simp [lk_fnum, *]; done) | (have hw4 : w = 4 := (by omega); subst hw4; exact ⟨rfl, rfl, rfl⟩)
  ·
    refine lk_tableIn (off := 38) (tgt := 39) dX2_number_1 (by decide) (by decide) rfl (by decide) ?_
    refine lk_aload_n dX2_number_39 rfl rfl ?_
    refine lk_getR (f := 2) dX2_number_40 hf fX2_18 (by decide) (by decide) ?_
    refine lk_iload_n dX2_number_43 rfl rfl ?_
    refine lk_ialdN (f := 2) (i := b) dX2_number_44 hf (by decide) rfl (by omega) (by decide) ?_
    refine lk_iret .int dX2_number_45 rfl rfl ?_
    rw [hQ]
    first | exact ⟨rfl, rfl, rfl⟩ | (refine ⟨?_, rfl, rfl⟩; simp [lk_fnum, *]; done) | (have hw4 : w = 4 := (by omega); subst hw4; exact ⟨rfl, rfl, rfl⟩)
  ·
    refine lk_tableIn (off := 45) (tgt := 46) dX2_number_1 (by decide) (by decide) rfl (by decide) ?_
    refine lk_aload_n dX2_number_46 rfl rfl ?_
    refine lk_getR (f := 3) dX2_number_47 hf fX2_21 (by decide) (by decide) ?_
    refine lk_iload_n dX2_number_50 rfl rfl ?_
    refine lk_zaldN (f := 3) (i := b) dX2_number_51 hf (by decide) rfl (by omega) (by decide) ?_
    refine lk_if_eq (tgt := 59) dX2_number_52 (by decide) (fun hh2 => ?_) (fun hh2 => ?_)
    ·
      refine lk_iconst (v := 0) dX2_number_59 (by decide) ?_
      refine lk_iret .int dX2_number_60 rfl rfl ?_
      rw [hQ]
      first | exact ⟨rfl, rfl, rfl⟩ | (refine ⟨?_, rfl, rfl⟩; simp [lk_fnum, *]; done) | (have hw4 : w = 4 := (by omega); subst hw4; exact ⟨rfl, rfl, rfl⟩)
    ·
      refine lk_iconst (v := 1) dX2_number_55 (by decide) ?_
      refine lk_goto (tgt := 60) dX2_number_56 (by decide) ?_
      refine lk_iret .int dX2_number_60 rfl rfl ?_
      rw [hQ]
      first | exact ⟨rfl, rfl, rfl⟩ | (refine ⟨?_, rfl, rfl⟩; simp [lk_fnum, *]; done) | (have hw4 : w = 4 := (by omega); subst hw4; exact ⟨rfl, rfl, rfl⟩)
  ·
    refine lk_tableIn (off := 60) (tgt := 61) dX2_number_1 (by decide) (by decide) rfl (by decide) ?_
    refine lk_aload_n dX2_number_61 rfl rfl ?_
    refine lk_getR (f := 4) dX2_number_62 hf fX2_25 (by decide) (by decide) ?_
    refine lk_iload_n dX2_number_65 rfl rfl ?_
    refine lk_ialdN (f := 4) (i := b) dX2_number_66 hf (by decide) rfl (by omega) (by decide) ?_
    refine lk_iret .int dX2_number_67 rfl rfl ?_
    rw [hQ]
    first | exact ⟨rfl, rfl, rfl⟩ | (refine ⟨?_, rfl, rfl⟩; simp [lk_fnum, *]; done) | (have hw4 : w = 4 := (by omega); subst hw4; exact ⟨rfl, rfl, rfl⟩)
  ·
    refine lk_tableOut (tgt := 68) dX2_number_1 (by rw [nI_toInt (by omega)]; omega) (by decide) ?_
    refine lk_aload_n dX2_number_68 rfl rfl ?_
    refine lk_iload_n dX2_number_69 rfl rfl ?_
    refine lk_callV (o := f) (as := [lk_vi (nI (b))]) (S := []) dX2_number_70 rfl vX2_letterCount rfl lX2_63 hf rfl (Nat.le_of_ble_eq_true rfl) (tX2_letterCount l X d σ τ (f := f) (b := (b)) (hf := hf) (n := n) (hn := hn) (hb := hb) (hn22 := hn22)) ?_
    refine lk_k3 ?_
    refine lk_cast (pc' := 73) (S' := [lk_vi (nI (lk_lcn (σ f 0 (b)) 4 0))]) rfl rfl rfl ?_
    refine lk_iret .int dX2_number_73 rfl rfl ?_
    rw [hQ]
    first | exact ⟨rfl, rfl, rfl⟩ | (refine ⟨?_, rfl, rfl⟩; simp [lk_fnum, *]; done) | (have hw4 : w = 4 := (by omega); subst hw4; exact ⟨rfl, rfl, rfl⟩)

set_option maxHeartbeats 1000000 in
set_option maxRecDepth 100000 in
theorem tX2_placeFor_old (l : Launch) (X : lk_G) (d : Nat) (σ : lk_N) (τ : lk_T) (f : Nat) (hf : lk_ko f = 2) (n : Nat) (w : Int32) (hn : σ f 5 0 = nI n) (hn22 : n < 22) (h01 : ∀ i, i < 22 → σ f 3 i = 0 ∨ σ f 3 i = 1) (p : Nat) (hp : p = lk_fpl (σ f) w n 0) (hpn : p < n) (hpw : σ f 0 p = w) : lk_Mt l X mX2_placeFor (d + 1) [lk_vr f 0, lk_vi (w)] σ τ (fun rr σ1 τ1 => rr = some (lk_vi (nI (p))) ∧ σ1 = σ ∧ τ1 = τ) := by
  refine lk_met (L := [(0, lk_vr f 0), (1, lk_vi (w))]) (by decide +kernel) (Nat.le_of_ble_eq_true rfl) rfl ?_
  obtain ⟨Q, hQ⟩ : ∃ Q : lk_Q, Q = fun rr σ1 τ1 => rr = some (lk_vi (nI (p))) ∧ σ1 = σ ∧ τ1 = τ := ⟨_, rfl⟩
  rw [← hQ]
  refine lk_iconst (v := 0) dX2_placeFor_0 (by decide) ?_
  refine lk_istore_n (L' := [(0, lk_vr f 0), (1, lk_vi (w)), (2, lk_vi 0)]) dX2_placeFor_1 rfl (by decide +kernel) rfl ?_
  have LP2 : ∀ (fu : Nat) (b : Nat), b ≤ n → p = lk_fpl (σ f) w (n - b) b → n - b < fu → lk_W l X mX2_placeFor (d + 1) 2 [(0, lk_vr f 0), (1, lk_vi (w)), (2, lk_vi (nI (b)))] [] σ τ Q := by
    intro fu
    induction fu with
    | zero => intro b hb hI hfu; exact absurd hfu (by omega)
    | succ fu ih =>
      intro b hb hI hfu
      refine lk_iload_n dX2_placeFor_2 rfl rfl ?_
      refine lk_aload_n dX2_placeFor_3 rfl rfl ?_
      refine lk_getIv (v := nI (n)) (f := 5) dX2_placeFor_4 hf fX2_28 (by decide) (by decide) hn ?_
      refine lk_icmp_geN (a := b) (b := n) (tgt := 26) dX2_placeFor_7 (by decide) (by omega) (by omega) (fun hh1 => ?_) (fun hh1 => ?_)
      ·
        have hpb : p = b := by
          by_cases e : b = n
          · rw [e, Nat.sub_self] at hI; rw [hI, e]; rfl
          · rw [show n - b = (n - (b + 1)) + 1 by omega, lk_fpl, if_neg (Int32.not_lt.mpr (by first | assumption | (exfalso; omega)))] at hI; exact hI
        refine lk_cast (L' := [(0, lk_vr f 0), (1, lk_vi (w)), (2, lk_vi (nI (p)))]) rfl (by rw [hpb]) rfl ?_
        refine lk_iload_n dX2_placeFor_26 rfl rfl ?_
        refine lk_aload_n dX2_placeFor_27 rfl rfl ?_
        refine lk_getIv (v := nI (n)) (f := 5) dX2_placeFor_28 hf fX2_28 (by decide) (by decide) hn ?_
        refine lk_icmp_geN (a := p) (b := n) (tgt := 46) dX2_placeFor_31 (by decide) (by omega) (by omega) (fun hh2 => absurd hh2 (by omega)) (fun hh2 => ?_)
        refine lk_aload_n dX2_placeFor_34 rfl rfl ?_
        refine lk_getR (f := 0) dX2_placeFor_35 hf fX2_11 (by decide) (by decide) ?_
        refine lk_iload_n dX2_placeFor_38 rfl rfl ?_
        refine lk_ialdN (f := 0) (i := p) dX2_placeFor_39 hf (by decide) rfl (by omega) (by decide) ?_
        refine lk_iload_n dX2_placeFor_40 rfl rfl ?_
        refine lk_icmp_ne (tgt := 46) dX2_placeFor_41 (by decide) (fun hh3 => absurd hh3 (by simp [hpw])) (fun hh3 => ?_)
        refine lk_iload_n dX2_placeFor_44 rfl rfl ?_
        refine lk_iret .int dX2_placeFor_45 rfl rfl ?_
        rw [hQ]
        exact ⟨by first | rfl | (simp [*]; done) | (simp_all; done) | grind, by first | rfl | (simp [*]; done), rfl⟩
      ·
        refine lk_aload_n dX2_placeFor_10 rfl rfl ?_
        refine lk_getR (f := 0) dX2_placeFor_11 hf fX2_11 (by decide) (by decide) ?_
        refine lk_iload_n dX2_placeFor_14 rfl rfl ?_
        refine lk_ialdN (f := 0) (i := b) dX2_placeFor_15 hf (by decide) rfl (by omega) (by decide) ?_
        refine lk_iload_n dX2_placeFor_16 rfl rfl ?_
        refine lk_icmp_ge (tgt := 26) dX2_placeFor_17 (by decide) (fun hh4 => ?_) (fun hh4 => ?_)
        ·
          have hpb : p = b := by
            by_cases e : b = n
            · rw [e, Nat.sub_self] at hI; rw [hI, e]; rfl
            · rw [show n - b = (n - (b + 1)) + 1 by omega, lk_fpl, if_neg (Int32.not_lt.mpr (by first | assumption | (exfalso; omega)))] at hI; exact hI
          refine lk_cast (L' := [(0, lk_vr f 0), (1, lk_vi (w)), (2, lk_vi (nI (p)))]) rfl (by rw [hpb]) rfl ?_
          refine lk_iload_n dX2_placeFor_26 rfl rfl ?_
          refine lk_aload_n dX2_placeFor_27 rfl rfl ?_
          refine lk_getIv (v := nI (n)) (f := 5) dX2_placeFor_28 hf fX2_28 (by decide) (by decide) hn ?_
          refine lk_icmp_geN (a := p) (b := n) (tgt := 46) dX2_placeFor_31 (by decide) (by omega) (by omega) (fun hh5 => absurd hh5 (by omega)) (fun hh5 => ?_)
          refine lk_aload_n dX2_placeFor_34 rfl rfl ?_
          refine lk_getR (f := 0) dX2_placeFor_35 hf fX2_11 (by decide) (by decide) ?_
          refine lk_iload_n dX2_placeFor_38 rfl rfl ?_
          refine lk_ialdN (f := 0) (i := p) dX2_placeFor_39 hf (by decide) rfl (by omega) (by decide) ?_
          refine lk_iload_n dX2_placeFor_40 rfl rfl ?_
          refine lk_icmp_ne (tgt := 46) dX2_placeFor_41 (by decide) (fun hh6 => absurd hh6 (by simp [hpw])) (fun hh6 => ?_)
          refine lk_iload_n dX2_placeFor_44 rfl rfl ?_
          refine lk_iret .int dX2_placeFor_45 rfl rfl ?_
          rw [hQ]
          exact ⟨by first | rfl | (simp [*]; done) | (simp_all; done) | grind, by first | rfl | (simp [*]; done), rfl⟩
        ·
          refine lk_iincN (a := b) (m := 1) (L' := [(0, lk_vr f 0), (1, lk_vi (w)), (2, lk_vi (nI (b + 1)))]) dX2_placeFor_20 rfl rfl (by decide +kernel) rfl ?_
          refine lk_goto (tgt := 2) dX2_placeFor_23 (by decide) ?_
          rw [show n - b = (n - (b + 1)) + 1 by omega, lk_fpl, if_pos (Int32.not_le.mp (by assumption))] at hI
          exact ih (b + 1) (by omega) hI (by omega)
  exact LP2 (n + 1) 0 (by omega) hp (by omega)

set_option maxHeartbeats 1000000 in
set_option maxRecDepth 100000 in
theorem tX2_placeFor_new (l : Launch) (X : lk_G) (d : Nat) (σ : lk_N) (τ : lk_T) (f : Nat) (hf : lk_ko f = 2) (n : Nat) (w : Int32) (hn : σ f 5 0 = nI n) (hn22 : n < 22) (h01 : ∀ i, i < 22 → σ f 3 i = 0 ∨ σ f 3 i = 1) (p : Nat) (hp : p = lk_fpl (σ f) w n 0) (hpw : ¬ (p < n ∧ σ f 0 p = w)) : lk_Mt l X mX2_placeFor (d + 1) [lk_vr f 0, lk_vi (w)] σ τ (fun rr σ1 τ1 => rr = some (lk_vi (nI (p))) ∧ σ1 = lk_so σ f (lk_fsh (σ f) p n) ∧ τ1 = τ) := by
  refine lk_met (L := [(0, lk_vr f 0), (1, lk_vi (w))]) (by decide +kernel) (Nat.le_of_ble_eq_true rfl) rfl ?_
  obtain ⟨Q, hQ⟩ : ∃ Q : lk_Q, Q = fun rr σ1 τ1 => rr = some (lk_vi (nI (p))) ∧ σ1 = lk_so σ f (lk_fsh (σ f) p n) ∧ τ1 = τ := ⟨_, rfl⟩
  rw [← hQ]
  refine lk_iconst (v := 0) dX2_placeFor_0 (by decide) ?_
  refine lk_istore_n (L' := [(0, lk_vr f 0), (1, lk_vi (w)), (2, lk_vi 0)]) dX2_placeFor_1 rfl (by decide +kernel) rfl ?_
  have LP2 : ∀ (fu : Nat) (b : Nat), b ≤ n → p = lk_fpl (σ f) w (n - b) b → n - b < fu → lk_W l X mX2_placeFor (d + 1) 2 [(0, lk_vr f 0), (1, lk_vi (w)), (2, lk_vi (nI (b)))] [] σ τ Q := by
    intro fu
    induction fu with
    | zero => intro b hb hI hfu; exact absurd hfu (by omega)
    | succ fu ih =>
      intro b hb hI hfu
      refine lk_iload_n dX2_placeFor_2 rfl rfl ?_
      refine lk_aload_n dX2_placeFor_3 rfl rfl ?_
      refine lk_getIv (v := nI (n)) (f := 5) dX2_placeFor_4 hf fX2_28 (by decide) (by decide) hn ?_
      refine lk_icmp_geN (a := b) (b := n) (tgt := 26) dX2_placeFor_7 (by decide) (by omega) (by omega) (fun hh1 => ?_) (fun hh1 => ?_)
      ·
        have hpb : p = b := by
          by_cases e : b = n
          · rw [e, Nat.sub_self] at hI; rw [hI, e]; rfl
          · rw [show n - b = (n - (b + 1)) + 1 by omega, lk_fpl, if_neg (Int32.not_lt.mpr (by first | assumption | (exfalso; omega)))] at hI; exact hI
        refine lk_cast (L' := [(0, lk_vr f 0), (1, lk_vi (w)), (2, lk_vi (nI (p)))]) rfl (by rw [hpb]) rfl ?_
        refine lk_iload_n dX2_placeFor_26 rfl rfl ?_
        refine lk_aload_n dX2_placeFor_27 rfl rfl ?_
        refine lk_getIv (v := nI (n)) (f := 5) dX2_placeFor_28 hf fX2_28 (by decide) (by decide) hn ?_
        refine lk_icmp_geN (a := p) (b := n) (tgt := 46) dX2_placeFor_31 (by decide) (by omega) (by omega) (fun hh2 => ?_) (fun hh2 => ?_)
        ·
          refine lk_aload_n dX2_placeFor_46 rfl rfl ?_
          refine lk_getIv (v := nI (n)) (f := 5) dX2_placeFor_47 hf fX2_28 (by decide) (by decide) hn ?_
          refine lk_bipush (v := 22) dX2_placeFor_50 (by decide) ?_
          refine lk_icmp_ltN (a := n) (b := 22) (tgt := 57) dX2_placeFor_52 (by decide) (by omega) (by omega) (fun hh3 => ?_) (fun hh3 => ?_)
          ·
            refine lk_aload_n dX2_placeFor_57 rfl rfl ?_
            refine lk_getIv (v := nI (n)) (f := 5) dX2_placeFor_58 hf fX2_28 (by decide) (by decide) hn ?_
            refine lk_istore_n (L' := [(0, lk_vr f 0), (1, lk_vi (w)), (2, lk_vi (nI (p))), (3, lk_vi (nI (n)))]) dX2_placeFor_61 rfl (by decide +kernel) rfl ?_
            have LP62 : ∀ (fu : Nat) (i : Nat), p ≤ i → i ≤ n → i < fu → lk_W l X mX2_placeFor (d + 1) 62 [(0, lk_vr f 0), (1, lk_vi (w)), (2, lk_vi (nI (p))), (3, lk_vi (nI (i)))] [] (lk_so σ f (lk_shi (σ f) i n)) τ Q := by
              intro fu
              induction fu with
              | zero => intro i hpi hin hfu; exact absurd hfu (by omega)
              | succ fu ih =>
                intro i hpi hin hfu
                refine lk_iload_n dX2_placeFor_62 rfl rfl ?_
                refine lk_iload_n dX2_placeFor_63 rfl rfl ?_
                refine lk_icmp_leN (a := i) (b := p) (tgt := 81) dX2_placeFor_64 (by decide) (by omega) (by omega) (fun hh4 => ?_) (fun hh4 => ?_)
                ·
                  refine lk_aload_n dX2_placeFor_81 rfl rfl ?_
                  refine lk_dup dX2_placeFor_82 rfl ?_
                  refine lk_getIv (v := nI (n)) (f := 5) dX2_placeFor_83 hf fX2_28 (by decide) (by decide) (by rw [lk_so_eq]; simp [lk_shi, hn]) ?_
                  refine lk_iconst (v := 1) dX2_placeFor_86 (by decide) ?_
                  refine lk_iaddN (a := n) (b := 1) dX2_placeFor_87 ?_
                  refine lk_putI (f := 5) dX2_placeFor_88 hf fX2_28 (by decide) (by decide) ?_
                  refine lk_iload_n dX2_placeFor_91 rfl rfl ?_
                  refine lk_iret .int dX2_placeFor_92 rfl rfl ?_
                  rw [hQ]
                  have hip : i = p := by omega
                  subst hip
                  refine ⟨rfl, ?_, rfl⟩
                  rw [lk_up_so, lk_so_so, lk_so_eq, lk_shi_e]
                ·
                  refine lk_aload_n dX2_placeFor_67 rfl rfl ?_
                  refine lk_iload_n dX2_placeFor_68 rfl rfl ?_
                  refine lk_iconst (v := 1) dX2_placeFor_69 (by decide) ?_
                  refine lk_isubN (a := i) (b := 1) dX2_placeFor_70 (by omega) ?_
                  refine lk_iload_n dX2_placeFor_71 rfl rfl ?_
                  refine lk_callV (o := f) (as := [lk_vi (nI ((i) - (1))), lk_vi (nI (i))]) (S := []) dX2_placeFor_72 rfl vX2_copyRow rfl lX2_55 hf rfl (Nat.le_of_ble_eq_true rfl) (tX2_copyRow l X d (lk_so σ f (lk_shi (σ f) i n)) τ (f := f) (a := ((i) - (1))) (b := (i)) (hf := hf) (ha := by omega) (hb := by omega) (h01 := by rw [lk_so_eq]; simp only [lk_shi]; rw [if_neg (by omega)]; exact h01 (i - 1) (by omega))) ?_
                  refine lk_k3 ?_
                  refine lk_cast (pc' := 75) (S' := []) rfl rfl rfl ?_
                  refine lk_idecN (a := i) (m := 1) (L' := [(0, lk_vr f 0), (1, lk_vi (w)), (2, lk_vi (nI (p))), (3, lk_vi (nI (i - 1)))]) dX2_placeFor_75 rfl rfl (by omega) (by decide +kernel) rfl ?_
                  refine lk_goto (tgt := 62) dX2_placeFor_78 (by decide) ?_
                  rw [lk_so_so, lk_so_eq, lk_shi_s _ (by omega) (by omega)]
                  exact ih (i - 1) (by omega) (by omega) (by omega)
            rw [← lk_shi_0 σ f n]
            exact LP62 (n + 1) n (by omega) (by omega) (by omega)
          ·
            refine lk_iconst (v := (-1)) dX2_placeFor_55 (by decide) ?_
            refine lk_iret .int dX2_placeFor_56 rfl rfl ?_
            rw [hQ]
            exfalso; omega
        ·
          refine lk_aload_n dX2_placeFor_34 rfl rfl ?_
          refine lk_getR (f := 0) dX2_placeFor_35 hf fX2_11 (by decide) (by decide) ?_
          refine lk_iload_n dX2_placeFor_38 rfl rfl ?_
          refine lk_ialdN (f := 0) (i := p) dX2_placeFor_39 hf (by decide) rfl (by omega) (by decide) ?_
          refine lk_iload_n dX2_placeFor_40 rfl rfl ?_
          refine lk_icmp_ne (tgt := 46) dX2_placeFor_41 (by decide) (fun hh5 => ?_) (fun hh5 => ?_)
          ·
            refine lk_aload_n dX2_placeFor_46 rfl rfl ?_
            refine lk_getIv (v := nI (n)) (f := 5) dX2_placeFor_47 hf fX2_28 (by decide) (by decide) hn ?_
            refine lk_bipush (v := 22) dX2_placeFor_50 (by decide) ?_
            refine lk_icmp_ltN (a := n) (b := 22) (tgt := 57) dX2_placeFor_52 (by decide) (by omega) (by omega) (fun hh6 => ?_) (fun hh6 => ?_)
            ·
              refine lk_aload_n dX2_placeFor_57 rfl rfl ?_
              refine lk_getIv (v := nI (n)) (f := 5) dX2_placeFor_58 hf fX2_28 (by decide) (by decide) hn ?_
              refine lk_istore_n (L' := [(0, lk_vr f 0), (1, lk_vi (w)), (2, lk_vi (nI (p))), (3, lk_vi (nI (n)))]) dX2_placeFor_61 rfl (by decide +kernel) rfl ?_
              have LP62 : ∀ (fu : Nat) (i : Nat), p ≤ i → i ≤ n → i < fu → lk_W l X mX2_placeFor (d + 1) 62 [(0, lk_vr f 0), (1, lk_vi (w)), (2, lk_vi (nI (p))), (3, lk_vi (nI (i)))] [] (lk_so σ f (lk_shi (σ f) i n)) τ Q := by
                intro fu
                induction fu with
                | zero => intro i hpi hin hfu; exact absurd hfu (by omega)
                | succ fu ih =>
                  intro i hpi hin hfu
                  refine lk_iload_n dX2_placeFor_62 rfl rfl ?_
                  refine lk_iload_n dX2_placeFor_63 rfl rfl ?_
                  refine lk_icmp_leN (a := i) (b := p) (tgt := 81) dX2_placeFor_64 (by decide) (by omega) (by omega) (fun hh7 => ?_) (fun hh7 => ?_)
                  ·
                    refine lk_aload_n dX2_placeFor_81 rfl rfl ?_
                    refine lk_dup dX2_placeFor_82 rfl ?_
                    refine lk_getIv (v := nI (n)) (f := 5) dX2_placeFor_83 hf fX2_28 (by decide) (by decide) (by rw [lk_so_eq]; simp [lk_shi, hn]) ?_
                    refine lk_iconst (v := 1) dX2_placeFor_86 (by decide) ?_
                    refine lk_iaddN (a := n) (b := 1) dX2_placeFor_87 ?_
                    refine lk_putI (f := 5) dX2_placeFor_88 hf fX2_28 (by decide) (by decide) ?_
                    refine lk_iload_n dX2_placeFor_91 rfl rfl ?_
                    refine lk_iret .int dX2_placeFor_92 rfl rfl ?_
                    rw [hQ]
                    have hip : i = p := by omega
                    subst hip
                    refine ⟨rfl, ?_, rfl⟩
                    rw [lk_up_so, lk_so_so, lk_so_eq, lk_shi_e]
                  ·
                    refine lk_aload_n dX2_placeFor_67 rfl rfl ?_
                    refine lk_iload_n dX2_placeFor_68 rfl rfl ?_
                    refine lk_iconst (v := 1) dX2_placeFor_69 (by decide) ?_
                    refine lk_isubN (a := i) (b := 1) dX2_placeFor_70 (by omega) ?_
                    refine lk_iload_n dX2_placeFor_71 rfl rfl ?_
                    refine lk_callV (o := f) (as := [lk_vi (nI ((i) - (1))), lk_vi (nI (i))]) (S := []) dX2_placeFor_72 rfl vX2_copyRow rfl lX2_55 hf rfl (Nat.le_of_ble_eq_true rfl) (tX2_copyRow l X d (lk_so σ f (lk_shi (σ f) i n)) τ (f := f) (a := ((i) - (1))) (b := (i)) (hf := hf) (ha := by omega) (hb := by omega) (h01 := by rw [lk_so_eq]; simp only [lk_shi]; rw [if_neg (by omega)]; exact h01 (i - 1) (by omega))) ?_
                    refine lk_k3 ?_
                    refine lk_cast (pc' := 75) (S' := []) rfl rfl rfl ?_
                    refine lk_idecN (a := i) (m := 1) (L' := [(0, lk_vr f 0), (1, lk_vi (w)), (2, lk_vi (nI (p))), (3, lk_vi (nI (i - 1)))]) dX2_placeFor_75 rfl rfl (by omega) (by decide +kernel) rfl ?_
                    refine lk_goto (tgt := 62) dX2_placeFor_78 (by decide) ?_
                    rw [lk_so_so, lk_so_eq, lk_shi_s _ (by omega) (by omega)]
                    exact ih (i - 1) (by omega) (by omega) (by omega)
              rw [← lk_shi_0 σ f n]
              exact LP62 (n + 1) n (by omega) (by omega) (by omega)
            ·
              refine lk_iconst (v := (-1)) dX2_placeFor_55 (by decide) ?_
              refine lk_iret .int dX2_placeFor_56 rfl rfl ?_
              rw [hQ]
              exfalso; omega
          ·
            refine lk_iload_n dX2_placeFor_44 rfl rfl ?_
            refine lk_iret .int dX2_placeFor_45 rfl rfl ?_
            rw [hQ]
            exact absurd ⟨by omega, by assumption⟩ hpw
      ·
        refine lk_aload_n dX2_placeFor_10 rfl rfl ?_
        refine lk_getR (f := 0) dX2_placeFor_11 hf fX2_11 (by decide) (by decide) ?_
        refine lk_iload_n dX2_placeFor_14 rfl rfl ?_
        refine lk_ialdN (f := 0) (i := b) dX2_placeFor_15 hf (by decide) rfl (by omega) (by decide) ?_
        refine lk_iload_n dX2_placeFor_16 rfl rfl ?_
        refine lk_icmp_ge (tgt := 26) dX2_placeFor_17 (by decide) (fun hh8 => ?_) (fun hh8 => ?_)
        ·
          have hpb : p = b := by
            by_cases e : b = n
            · rw [e, Nat.sub_self] at hI; rw [hI, e]; rfl
            · rw [show n - b = (n - (b + 1)) + 1 by omega, lk_fpl, if_neg (Int32.not_lt.mpr (by first | assumption | (exfalso; omega)))] at hI; exact hI
          refine lk_cast (L' := [(0, lk_vr f 0), (1, lk_vi (w)), (2, lk_vi (nI (p)))]) rfl (by rw [hpb]) rfl ?_
          refine lk_iload_n dX2_placeFor_26 rfl rfl ?_
          refine lk_aload_n dX2_placeFor_27 rfl rfl ?_
          refine lk_getIv (v := nI (n)) (f := 5) dX2_placeFor_28 hf fX2_28 (by decide) (by decide) hn ?_
          refine lk_icmp_geN (a := p) (b := n) (tgt := 46) dX2_placeFor_31 (by decide) (by omega) (by omega) (fun hh9 => ?_) (fun hh9 => ?_)
          ·
            refine lk_aload_n dX2_placeFor_46 rfl rfl ?_
            refine lk_getIv (v := nI (n)) (f := 5) dX2_placeFor_47 hf fX2_28 (by decide) (by decide) hn ?_
            refine lk_bipush (v := 22) dX2_placeFor_50 (by decide) ?_
            refine lk_icmp_ltN (a := n) (b := 22) (tgt := 57) dX2_placeFor_52 (by decide) (by omega) (by omega) (fun hh10 => ?_) (fun hh10 => ?_)
            ·
              refine lk_aload_n dX2_placeFor_57 rfl rfl ?_
              refine lk_getIv (v := nI (n)) (f := 5) dX2_placeFor_58 hf fX2_28 (by decide) (by decide) hn ?_
              refine lk_istore_n (L' := [(0, lk_vr f 0), (1, lk_vi (w)), (2, lk_vi (nI (p))), (3, lk_vi (nI (n)))]) dX2_placeFor_61 rfl (by decide +kernel) rfl ?_
              have LP62 : ∀ (fu : Nat) (i : Nat), p ≤ i → i ≤ n → i < fu → lk_W l X mX2_placeFor (d + 1) 62 [(0, lk_vr f 0), (1, lk_vi (w)), (2, lk_vi (nI (p))), (3, lk_vi (nI (i)))] [] (lk_so σ f (lk_shi (σ f) i n)) τ Q := by
                intro fu
                induction fu with
                | zero => intro i hpi hin hfu; exact absurd hfu (by omega)
                | succ fu ih =>
                  intro i hpi hin hfu
                  refine lk_iload_n dX2_placeFor_62 rfl rfl ?_
                  refine lk_iload_n dX2_placeFor_63 rfl rfl ?_
                  refine lk_icmp_leN (a := i) (b := p) (tgt := 81) dX2_placeFor_64 (by decide) (by omega) (by omega) (fun hh11 => ?_) (fun hh11 => ?_)
                  ·
                    refine lk_aload_n dX2_placeFor_81 rfl rfl ?_
                    refine lk_dup dX2_placeFor_82 rfl ?_
                    refine lk_getIv (v := nI (n)) (f := 5) dX2_placeFor_83 hf fX2_28 (by decide) (by decide) (by rw [lk_so_eq]; simp [lk_shi, hn]) ?_
                    refine lk_iconst (v := 1) dX2_placeFor_86 (by decide) ?_
                    refine lk_iaddN (a := n) (b := 1) dX2_placeFor_87 ?_
                    refine lk_putI (f := 5) dX2_placeFor_88 hf fX2_28 (by decide) (by decide) ?_
                    refine lk_iload_n dX2_placeFor_91 rfl rfl ?_
                    refine lk_iret .int dX2_placeFor_92 rfl rfl ?_
                    rw [hQ]
                    have hip : i = p := by omega
                    subst hip
                    refine ⟨rfl, ?_, rfl⟩
                    rw [lk_up_so, lk_so_so, lk_so_eq, lk_shi_e]
                  ·
                    refine lk_aload_n dX2_placeFor_67 rfl rfl ?_
                    refine lk_iload_n dX2_placeFor_68 rfl rfl ?_
                    refine lk_iconst (v := 1) dX2_placeFor_69 (by decide) ?_
                    refine lk_isubN (a := i) (b := 1) dX2_placeFor_70 (by omega) ?_
                    refine lk_iload_n dX2_placeFor_71 rfl rfl ?_
                    refine lk_callV (o := f) (as := [lk_vi (nI ((i) - (1))), lk_vi (nI (i))]) (S := []) dX2_placeFor_72 rfl vX2_copyRow rfl lX2_55 hf rfl (Nat.le_of_ble_eq_true rfl) (tX2_copyRow l X d (lk_so σ f (lk_shi (σ f) i n)) τ (f := f) (a := ((i) - (1))) (b := (i)) (hf := hf) (ha := by omega) (hb := by omega) (h01 := by rw [lk_so_eq]; simp only [lk_shi]; rw [if_neg (by omega)]; exact h01 (i - 1) (by omega))) ?_
                    refine lk_k3 ?_
                    refine lk_cast (pc' := 75) (S' := []) rfl rfl rfl ?_
                    refine lk_idecN (a := i) (m := 1) (L' := [(0, lk_vr f 0), (1, lk_vi (w)), (2, lk_vi (nI (p))), (3, lk_vi (nI (i - 1)))]) dX2_placeFor_75 rfl rfl (by omega) (by decide +kernel) rfl ?_
                    refine lk_goto (tgt := 62) dX2_placeFor_78 (by decide) ?_
                    rw [lk_so_so, lk_so_eq, lk_shi_s _ (by omega) (by omega)]
                    exact ih (i - 1) (by omega) (by omega) (by omega)
              rw [← lk_shi_0 σ f n]
              exact LP62 (n + 1) n (by omega) (by omega) (by omega)
            ·
              refine lk_iconst (v := (-1)) dX2_placeFor_55 (by decide) ?_
              refine lk_iret .int dX2_placeFor_56 rfl rfl ?_
              rw [hQ]
              exfalso; omega
          ·
            refine lk_aload_n dX2_placeFor_34 rfl rfl ?_
            refine lk_getR (f := 0) dX2_placeFor_35 hf fX2_11 (by decide) (by decide) ?_
            refine lk_iload_n dX2_placeFor_38 rfl rfl ?_
            refine lk_ialdN (f := 0) (i := p) dX2_placeFor_39 hf (by decide) rfl (by omega) (by decide) ?_
            refine lk_iload_n dX2_placeFor_40 rfl rfl ?_
            refine lk_icmp_ne (tgt := 46) dX2_placeFor_41 (by decide) (fun hh12 => ?_) (fun hh12 => ?_)
            ·
              refine lk_aload_n dX2_placeFor_46 rfl rfl ?_
              refine lk_getIv (v := nI (n)) (f := 5) dX2_placeFor_47 hf fX2_28 (by decide) (by decide) hn ?_
              refine lk_bipush (v := 22) dX2_placeFor_50 (by decide) ?_
              refine lk_icmp_ltN (a := n) (b := 22) (tgt := 57) dX2_placeFor_52 (by decide) (by omega) (by omega) (fun hh13 => ?_) (fun hh13 => ?_)
              ·
                refine lk_aload_n dX2_placeFor_57 rfl rfl ?_
                refine lk_getIv (v := nI (n)) (f := 5) dX2_placeFor_58 hf fX2_28 (by decide) (by decide) hn ?_
                refine lk_istore_n (L' := [(0, lk_vr f 0), (1, lk_vi (w)), (2, lk_vi (nI (p))), (3, lk_vi (nI (n)))]) dX2_placeFor_61 rfl (by decide +kernel) rfl ?_
                have LP62 : ∀ (fu : Nat) (i : Nat), p ≤ i → i ≤ n → i < fu → lk_W l X mX2_placeFor (d + 1) 62 [(0, lk_vr f 0), (1, lk_vi (w)), (2, lk_vi (nI (p))), (3, lk_vi (nI (i)))] [] (lk_so σ f (lk_shi (σ f) i n)) τ Q := by
                  intro fu
                  induction fu with
                  | zero => intro i hpi hin hfu; exact absurd hfu (by omega)
                  | succ fu ih =>
                    intro i hpi hin hfu
                    refine lk_iload_n dX2_placeFor_62 rfl rfl ?_
                    refine lk_iload_n dX2_placeFor_63 rfl rfl ?_
                    refine lk_icmp_leN (a := i) (b := p) (tgt := 81) dX2_placeFor_64 (by decide) (by omega) (by omega) (fun hh14 => ?_) (fun hh14 => ?_)
                    ·
                      refine lk_aload_n dX2_placeFor_81 rfl rfl ?_
                      refine lk_dup dX2_placeFor_82 rfl ?_
                      refine lk_getIv (v := nI (n)) (f := 5) dX2_placeFor_83 hf fX2_28 (by decide) (by decide) (by rw [lk_so_eq]; simp [lk_shi, hn]) ?_
                      refine lk_iconst (v := 1) dX2_placeFor_86 (by decide) ?_
                      refine lk_iaddN (a := n) (b := 1) dX2_placeFor_87 ?_
                      refine lk_putI (f := 5) dX2_placeFor_88 hf fX2_28 (by decide) (by decide) ?_
                      refine lk_iload_n dX2_placeFor_91 rfl rfl ?_
                      refine lk_iret .int dX2_placeFor_92 rfl rfl ?_
                      rw [hQ]
                      have hip : i = p := by omega
                      subst hip
                      refine ⟨rfl, ?_, rfl⟩
                      rw [lk_up_so, lk_so_so, lk_so_eq, lk_shi_e]
                    ·
                      refine lk_aload_n dX2_placeFor_67 rfl rfl ?_
                      refine lk_iload_n dX2_placeFor_68 rfl rfl ?_
                      refine lk_iconst (v := 1) dX2_placeFor_69 (by decide) ?_
                      refine lk_isubN (a := i) (b := 1) dX2_placeFor_70 (by omega) ?_
                      refine lk_iload_n dX2_placeFor_71 rfl rfl ?_
                      refine lk_callV (o := f) (as := [lk_vi (nI ((i) - (1))), lk_vi (nI (i))]) (S := []) dX2_placeFor_72 rfl vX2_copyRow rfl lX2_55 hf rfl (Nat.le_of_ble_eq_true rfl) (tX2_copyRow l X d (lk_so σ f (lk_shi (σ f) i n)) τ (f := f) (a := ((i) - (1))) (b := (i)) (hf := hf) (ha := by omega) (hb := by omega) (h01 := by rw [lk_so_eq]; simp only [lk_shi]; rw [if_neg (by omega)]; exact h01 (i - 1) (by omega))) ?_
                      refine lk_k3 ?_
                      refine lk_cast (pc' := 75) (S' := []) rfl rfl rfl ?_
                      refine lk_idecN (a := i) (m := 1) (L' := [(0, lk_vr f 0), (1, lk_vi (w)), (2, lk_vi (nI (p))), (3, lk_vi (nI (i - 1)))]) dX2_placeFor_75 rfl rfl (by omega) (by decide +kernel) rfl ?_
                      refine lk_goto (tgt := 62) dX2_placeFor_78 (by decide) ?_
                      rw [lk_so_so, lk_so_eq, lk_shi_s _ (by omega) (by omega)]
                      exact ih (i - 1) (by omega) (by omega) (by omega)
                rw [← lk_shi_0 σ f n]
                exact LP62 (n + 1) n (by omega) (by omega) (by omega)
              ·
                refine lk_iconst (v := (-1)) dX2_placeFor_55 (by decide) ?_
                refine lk_iret .int dX2_placeFor_56 rfl rfl ?_
                rw [hQ]
                exfalso; omega
            ·
              refine lk_iload_n dX2_placeFor_44 rfl rfl ?_
              refine lk_iret .int dX2_placeFor_45 rfl rfl ?_
              rw [hQ]
              exact absurd ⟨by omega, by assumption⟩ hpw
        ·
          refine lk_iincN (a := b) (m := 1) (L' := [(0, lk_vr f 0), (1, lk_vi (w)), (2, lk_vi (nI (b + 1)))]) dX2_placeFor_20 rfl rfl (by decide +kernel) rfl ?_
          refine lk_goto (tgt := 2) dX2_placeFor_23 (by decide) ?_
          rw [show n - b = (n - (b + 1)) + 1 by omega, lk_fpl, if_pos (Int32.not_le.mp (by assumption))] at hI
          exact ih (b + 1) (by omega) hI (by omega)
  exact LP2 (n + 1) 0 (by omega) hp (by omega)
