def lk_cfA (V W : lk_O) (i : Nat) : lk_O := fun f j => if f < 10 ∧ (f = 5 → j < i) then V f j else W f j
theorem lk_cf_fin {σ : lk_N} {a o f j : Nat} (hoc : ¬ o = a) (h : (f ≤ 1 ∧ j = 0) ∨ (2 ≤ f ∧ f ≤ 5 ∧ j < 6) ∨ (6 ≤ f ∧ f ≤ 9 ∧ j < 7) ∨ (f = 12 ∧ j = 0)) :
    lk_cfA (σ o) (σ a) 0 f j = (lk_cp (lk_cp (lk_cp (lk_cp (lk_cp (lk_cp (lk_cp (lk_up (lk_up σ a 0 0 (σ o 0 0)) a 1 0 ((lk_up σ a 0 0 (σ o 0 0)) o 1 0)) o 2 a 2 6) o 3 a 3 6) o 4 a 4 6) o 6 a 6 7) o 7 a 7 7) o 8 a 8 7) o 9 a 9 7) a f j := by
  simp only [lk_cfA, lk_cp, lk_up, hoc, false_and, if_false, true_and]
  grind (splits := 40)
theorem lk_cf_end {V W : lk_O} {f j : Nat} (h : (f ≤ 1 ∧ j = 0) ∨ (2 ≤ f ∧ f ≤ 5 ∧ j < 6) ∨ (6 ≤ f ∧ f ≤ 9 ∧ j < 7) ∨ (f = 12 ∧ j = 0)) : lk_im V W f j = lk_cfA V W 6 f j := by
  simp only [lk_im, lk_cfA]
  grind
theorem lk_cfA_s (σ : lk_N) (V W : lk_O) (c i : Nat) : lk_up (lk_so σ c (lk_cfA V W i)) c 5 i (V 5 i) = lk_so σ c (lk_cfA V W (i + 1)) := by
  rw [lk_up_so, lk_so_so, lk_so_eq]
  congr 1; funext f j
  simp only [lk_ou, lk_cfA]
  grind
def lk_clf (V W : lk_O) (k : Nat) : lk_O := lk_ou (lk_ou (lk_ou (lk_ou W 4 k (V 4 k)) 5 k (V 5 k)) 6 k (V 6 k)) 6 (k + 1) (V 6 (k + 1))
/-- reaches i .. n have lost -/
def lk_lsA (V : lk_O) (n i : Nat) : lk_O := fun f j => if f = 6 ∧ i ≤ j ∧ j ≤ n then (if V 7 j < V 6 j - V 9 j then V 6 j - V 9 j else V 7 j) else V f j
theorem lk_lsA_f (V : lk_O) (n : Nat) : lk_lsA V n 0 = fun f i => if f = 6 ∧ i ≤ n then (if V 7 i < V 6 i - V 9 i then V 6 i - V 9 i else V 7 i) else V f i := by funext f j; simp [lk_lsA]
theorem lk_lsA_0 (σ : lk_N) (c n : Nat) : lk_so σ c (lk_lsA (σ c) n (n + 1)) = σ := by
  have : lk_lsA (σ c) n (n + 1) = σ c := by
    funext f j
    simp only [lk_lsA]
    rw [if_neg (by omega)]
  rw [this, lk_so_self]
theorem lk_lsA_s (σ : lk_N) (c : Nat) {n i : Nat} (h : i ≤ n) : lk_up (lk_so σ c (lk_lsA (σ c) n (i + 1))) c 6 i (if (lk_so σ c (lk_lsA (σ c) n (i + 1))) c 7 i < (lk_so σ c (lk_lsA (σ c) n (i + 1))) c 6 i - (lk_so σ c (lk_lsA (σ c) n (i + 1))) c 9 i then (lk_so σ c (lk_lsA (σ c) n (i + 1))) c 6 i - (lk_so σ c (lk_lsA (σ c) n (i + 1))) c 9 i else (lk_so σ c (lk_lsA (σ c) n (i + 1))) c 7 i) = lk_so σ c (lk_lsA (σ c) n i) := by
  rw [lk_up_so, lk_so_so, lk_so_eq]
  congr 1; funext f j
  simp only [lk_ou, lk_lsA]
  grind (splits := 24)
set_option maxHeartbeats 4000000 in
set_option maxRecDepth 100000 in
theorem tX5_copyFrom (l : Launch) (X : lk_G) (d : Nat) (σ : lk_N) (τ : lk_T) (t u : Nat) (ht : lk_ko t = 5) (hu : lk_ko u = 5) : lk_Mt l X mX5_copyFrom (d + 2) [lk_vr t 0, lk_vr u 0] σ τ (fun rr σ1 τ1 => rr = none ∧ σ1 = lk_so σ t (σ u) ∧ τ1 = τ) := by
  refine lk_met (L := [(0, lk_vr t 0), (1, lk_vr u 0)]) (by decide +kernel) (Nat.le_of_ble_eq_true rfl) rfl ?_
  obtain ⟨Q, hQ⟩ : ∃ Q : lk_Q, Q = fun rr σ1 τ1 => rr = none ∧ σ1 = lk_so σ t (σ u) ∧ τ1 = τ := ⟨_, rfl⟩
  rw [← hQ]
  refine lk_aload_n dX5_copyFrom_0 rfl rfl ?_
  refine lk_getR (f := 0) dX5_copyFrom_1 hu fX5_11 (by decide) (by decide) ?_
  refine lk_iconst (v := 0) dX5_copyFrom_4 (by decide) ?_
  refine lk_aload_n dX5_copyFrom_5 rfl rfl ?_
  refine lk_getR (f := 0) dX5_copyFrom_6 ht fX5_11 (by decide) (by decide) ?_
  refine lk_iconst (v := 0) dX5_copyFrom_9 (by decide) ?_
  refine lk_bipush (v := 118) dX5_copyFrom_10 (by decide) ?_
  refine lk_copy (f := 0) (f' := 0) (n := 118) (k0 := 118) dX5_copyFrom_12 lX5_15 wNatC wStaC wIniC hu (by decide) rfl ht (by decide) rfl (by decide) rfl (by decide) (by decide) (Nat.le_of_ble_eq_true rfl) ?_
  refine lk_ext (σ' := lk_so σ t (σ u)) (fun o f j hin => ?_) ?_
  · by_cases ho : o = t
    · subst ho
      obtain ⟨rfl, hj⟩ := lk_inr5 ht hin
      simp [lk_so, lk_cp, hj]
    · simp [lk_so, lk_cp, ho]
  refine lk_vret dX5_copyFrom_15 rfl ?_
  rw [hQ]
  exact ⟨by first | rfl | (simp [*]; done) | (simp_all; done) | grind, by first | rfl | (simp [*]; done), rfl⟩

set_option maxHeartbeats 4000000 in
set_option maxRecDepth 100000 in
theorem tX0_copyFrom (l : Launch) (X : lk_G) (d : Nat) (σ : lk_N) (τ : lk_T) (c : Nat) (hc : lk_ko c = 0) (o : Nat) (ho : lk_ko o = 0) (hco : ¬ c = o) (h01 : ∀ k, k < 6 → σ o 5 k = 0 ∨ σ o 5 k = 1) : lk_Mt l X mX0_copyFrom (d + 3) [lk_vr c 0, lk_vr o 0] σ τ (fun rr σ1 τ1 => rr = none ∧ σ1 = lk_so (lk_so σ c (lk_im (σ o) (σ c))) (c + 1) (σ (o + 1)) ∧ τ1 = τ) := by
  refine lk_met (L := [(0, lk_vr c 0), (1, lk_vr o 0)]) (by decide +kernel) (Nat.le_of_ble_eq_true rfl) rfl ?_
  obtain ⟨Q, hQ⟩ : ∃ Q : lk_Q, Q = fun rr σ1 τ1 => rr = none ∧ σ1 = lk_so (lk_so σ c (lk_im (σ o) (σ c))) (c + 1) (σ (o + 1)) ∧ τ1 = τ := ⟨_, rfl⟩
  rw [← hQ]
  have hoc : ¬ o = c := fun e => hco e.symm
  have hc1 : ¬ c + 1 = o := fun e => absurd (lk_kc1 hc) (by rw [e, ho]; decide)
  have ho1 : ¬ o + 1 = c := fun e => absurd (lk_kc1 ho) (by rw [e, hc]; decide)
  refine lk_aload_n dX0_copyFrom_0 rfl rfl ?_
  refine lk_aload_n dX0_copyFrom_1 rfl rfl ?_
  refine lk_getI (f := 0) dX0_copyFrom_2 ho fX0_51 (by decide) (by decide) ?_
  refine lk_putI (f := 0) dX0_copyFrom_5 hc fX0_51 (by decide) (by decide) ?_
  refine lk_aload_n dX0_copyFrom_8 rfl rfl ?_
  refine lk_aload_n dX0_copyFrom_9 rfl rfl ?_
  refine lk_getI (f := 1) dX0_copyFrom_10 ho fX0_55 (by decide) (by decide) ?_
  refine lk_putI (f := 1) dX0_copyFrom_13 hc fX0_55 (by decide) (by decide) ?_
  refine lk_aload_n dX0_copyFrom_16 rfl rfl ?_
  refine lk_getR (f := 2) dX0_copyFrom_17 ho fX0_9 (by decide) (by decide) ?_
  refine lk_iconst (v := 0) dX0_copyFrom_20 (by decide) ?_
  refine lk_aload_n dX0_copyFrom_21 rfl rfl ?_
  refine lk_getR (f := 2) dX0_copyFrom_22 hc fX0_9 (by decide) (by decide) ?_
  refine lk_iconst (v := 0) dX0_copyFrom_25 (by decide) ?_
  refine lk_bipush (v := 6) dX0_copyFrom_26 (by decide) ?_
  refine lk_copy (f := 2) (f' := 2) (n := 6) (k0 := 6) dX0_copyFrom_28 lX0_58 wNatC wStaC wIniC ho (by decide) rfl hc (by decide) rfl (by decide) rfl (by decide) (by decide) (Nat.le_of_ble_eq_true rfl) ?_
  refine lk_aload_n dX0_copyFrom_31 rfl rfl ?_
  refine lk_getR (f := 3) dX0_copyFrom_32 ho fX0_15 (by decide) (by decide) ?_
  refine lk_iconst (v := 0) dX0_copyFrom_35 (by decide) ?_
  refine lk_aload_n dX0_copyFrom_36 rfl rfl ?_
  refine lk_getR (f := 3) dX0_copyFrom_37 hc fX0_15 (by decide) (by decide) ?_
  refine lk_iconst (v := 0) dX0_copyFrom_40 (by decide) ?_
  refine lk_bipush (v := 6) dX0_copyFrom_41 (by decide) ?_
  refine lk_copy (f := 3) (f' := 3) (n := 6) (k0 := 6) dX0_copyFrom_43 lX0_58 wNatC wStaC wIniC ho (by decide) rfl hc (by decide) rfl (by decide) rfl (by decide) (by decide) (Nat.le_of_ble_eq_true rfl) ?_
  refine lk_aload_n dX0_copyFrom_46 rfl rfl ?_
  refine lk_getR (f := 4) dX0_copyFrom_47 ho fX0_18 (by decide) (by decide) ?_
  refine lk_iconst (v := 0) dX0_copyFrom_50 (by decide) ?_
  refine lk_aload_n dX0_copyFrom_51 rfl rfl ?_
  refine lk_getR (f := 4) dX0_copyFrom_52 hc fX0_18 (by decide) (by decide) ?_
  refine lk_iconst (v := 0) dX0_copyFrom_55 (by decide) ?_
  refine lk_bipush (v := 6) dX0_copyFrom_56 (by decide) ?_
  refine lk_copy (f := 4) (f' := 4) (n := 6) (k0 := 6) dX0_copyFrom_58 lX0_58 wNatC wStaC wIniC ho (by decide) rfl hc (by decide) rfl (by decide) rfl (by decide) (by decide) (Nat.le_of_ble_eq_true rfl) ?_
  refine lk_aload_n dX0_copyFrom_61 rfl rfl ?_
  refine lk_getR (f := 6) dX0_copyFrom_62 ho fX0_25 (by decide) (by decide) ?_
  refine lk_iconst (v := 0) dX0_copyFrom_65 (by decide) ?_
  refine lk_aload_n dX0_copyFrom_66 rfl rfl ?_
  refine lk_getR (f := 6) dX0_copyFrom_67 hc fX0_25 (by decide) (by decide) ?_
  refine lk_iconst (v := 0) dX0_copyFrom_70 (by decide) ?_
  refine lk_bipush (v := 7) dX0_copyFrom_71 (by decide) ?_
  refine lk_copy (f := 6) (f' := 6) (n := 7) (k0 := 7) dX0_copyFrom_73 lX0_58 wNatC wStaC wIniC ho (by decide) rfl hc (by decide) rfl (by decide) rfl (by decide) (by decide) (Nat.le_of_ble_eq_true rfl) ?_
  refine lk_aload_n dX0_copyFrom_76 rfl rfl ?_
  refine lk_getR (f := 7) dX0_copyFrom_77 ho fX0_28 (by decide) (by decide) ?_
  refine lk_iconst (v := 0) dX0_copyFrom_80 (by decide) ?_
  refine lk_aload_n dX0_copyFrom_81 rfl rfl ?_
  refine lk_getR (f := 7) dX0_copyFrom_82 hc fX0_28 (by decide) (by decide) ?_
  refine lk_iconst (v := 0) dX0_copyFrom_85 (by decide) ?_
  refine lk_bipush (v := 7) dX0_copyFrom_86 (by decide) ?_
  refine lk_copy (f := 7) (f' := 7) (n := 7) (k0 := 7) dX0_copyFrom_88 lX0_58 wNatC wStaC wIniC ho (by decide) rfl hc (by decide) rfl (by decide) rfl (by decide) (by decide) (Nat.le_of_ble_eq_true rfl) ?_
  refine lk_aload_n dX0_copyFrom_91 rfl rfl ?_
  refine lk_getR (f := 8) dX0_copyFrom_92 ho fX0_31 (by decide) (by decide) ?_
  refine lk_iconst (v := 0) dX0_copyFrom_95 (by decide) ?_
  refine lk_aload_n dX0_copyFrom_96 rfl rfl ?_
  refine lk_getR (f := 8) dX0_copyFrom_97 hc fX0_31 (by decide) (by decide) ?_
  refine lk_iconst (v := 0) dX0_copyFrom_100 (by decide) ?_
  refine lk_bipush (v := 7) dX0_copyFrom_101 (by decide) ?_
  refine lk_copy (f := 8) (f' := 8) (n := 7) (k0 := 7) dX0_copyFrom_103 lX0_58 wNatC wStaC wIniC ho (by decide) rfl hc (by decide) rfl (by decide) rfl (by decide) (by decide) (Nat.le_of_ble_eq_true rfl) ?_
  refine lk_aload_n dX0_copyFrom_106 rfl rfl ?_
  refine lk_getR (f := 9) dX0_copyFrom_107 ho fX0_34 (by decide) (by decide) ?_
  refine lk_iconst (v := 0) dX0_copyFrom_110 (by decide) ?_
  refine lk_aload_n dX0_copyFrom_111 rfl rfl ?_
  refine lk_getR (f := 9) dX0_copyFrom_112 hc fX0_34 (by decide) (by decide) ?_
  refine lk_iconst (v := 0) dX0_copyFrom_115 (by decide) ?_
  refine lk_bipush (v := 7) dX0_copyFrom_116 (by decide) ?_
  refine lk_copy (f := 9) (f' := 9) (n := 7) (k0 := 7) dX0_copyFrom_118 lX0_58 wNatC wStaC wIniC ho (by decide) rfl hc (by decide) rfl (by decide) rfl (by decide) (by decide) (Nat.le_of_ble_eq_true rfl) ?_
  refine lk_ext (σ' := (lk_so σ c (lk_cfA (σ o) (σ c) 0))) (fun a f j hin => ?_) ?_
  · by_cases ha : a = c
    · subst ha
      rw [lk_so_eq]
      exact lk_cf_fin hoc (lk_inr0 hc hin)
    · simp [lk_so, lk_cp, lk_up, ha]
  refine lk_iconst (v := 0) dX0_copyFrom_121 (by decide) ?_
  refine lk_istore_n (L' := [(0, lk_vr c 0), (1, lk_vr o 0), (2, lk_vi 0)]) dX0_copyFrom_122 rfl (by decide +kernel) rfl ?_
  have LP123 : ∀ (fu : Nat) (i : Nat), i ≤ 6 → 6 - i < fu → lk_W l X mX0_copyFrom (d + 3) 123 [(0, lk_vr c 0), (1, lk_vr o 0), (2, lk_vi (nI (i)))] [] (lk_so σ c (lk_cfA (σ o) (σ c) i)) τ Q := by
    intro fu
    induction fu with
    | zero => intro i hi hfu; exact absurd hfu (by omega)
    | succ fu ih =>
      intro i hi hfu
      refine lk_iload_n dX0_copyFrom_123 rfl rfl ?_
      refine lk_bipush (v := 6) dX0_copyFrom_124 (by decide) ?_
      refine lk_icmp_geN (a := i) (b := 6) (tgt := 147) dX0_copyFrom_126 (by decide) (by omega) (by omega) (fun h1 => ?_) (fun h1 => ?_)
      ·
        have hi6 : i = 6 := by omega
        subst hi6
        refine lk_ext (σ' := lk_so σ c (lk_im (σ o) (σ c))) (fun a f j hin => ?_) ?_
        · by_cases ha : a = c
          · subst ha
            rw [lk_so_eq, lk_so_eq]
            exact lk_cf_end (lk_inr0 hc hin)
          · simp [lk_so, ha]
        refine lk_aload_n dX0_copyFrom_147 rfl rfl ?_
        refine lk_getO (f := 10) (o' := (c + 1)) dX0_copyFrom_148 hc fX0_40 (by decide) (by decide) (lk_fo1 hc) ?_
        refine lk_aload_n dX0_copyFrom_151 rfl rfl ?_
        refine lk_getO (f := 10) (o' := (o + 1)) dX0_copyFrom_152 ho fX0_40 (by decide) (by decide) (lk_fo1 ho) ?_
        refine lk_callV (o := (c + 1)) (as := [lk_vr (o + 1) 0]) (S := []) dX0_copyFrom_155 rfl vX5_copyFrom rfl lX0_64 (lk_kc1 hc) rfl (Nat.le_of_ble_eq_true rfl) (tX5_copyFrom l X d (lk_so σ c (lk_im (σ o) (σ c))) τ (t := (c + 1)) (u := (o + 1)) (ht := lk_kc1 hc) (hu := lk_kc1 ho)) ?_
        refine lk_k3 ?_
        refine lk_cast (pc' := 158) (S' := []) rfl rfl rfl ?_
        refine lk_vret dX0_copyFrom_158 rfl ?_
        rw [hQ]
        refine ⟨rfl, ?_, rfl⟩
        rw [lk_so_ne ho1]
      ·
        refine lk_aload_n dX0_copyFrom_129 rfl rfl ?_
        refine lk_getR (f := 5) dX0_copyFrom_130 hc fX0_21 (by decide) (by decide) ?_
        refine lk_iload_n dX0_copyFrom_133 rfl rfl ?_
        refine lk_aload_n dX0_copyFrom_134 rfl rfl ?_
        refine lk_getR (f := 5) dX0_copyFrom_135 ho fX0_21 (by decide) (by decide) ?_
        refine lk_iload_n dX0_copyFrom_138 rfl rfl ?_
        refine lk_zaldN (f := 5) (i := i) dX0_copyFrom_139 ho (by decide) rfl (by omega) (by decide) ?_
        refine lk_eqtop (y := (σ o 5 i)) (by rw [lk_so_ne hoc]) ?_
        refine lk_zastN (f := 5) (i := i) (v := (σ o 5 i)) dX0_copyFrom_140 hc (by decide) rfl (by omega) (by decide) (h01 i (by omega)) ?_
        refine lk_iincN (a := i) (m := 1) (L' := [(0, lk_vr c 0), (1, lk_vr o 0), (2, lk_vi (nI (i + 1)))]) dX0_copyFrom_141 rfl rfl (by decide +kernel) rfl ?_
        refine lk_goto (tgt := 123) dX0_copyFrom_144 (by decide) ?_
        rw [lk_cfA_s]
        exact ih (i + 1) (by omega) (by omega)
  exact LP123 7 0 (by omega) (by omega)

set_option maxHeartbeats 4000000 in
set_option maxRecDepth 100000 in
theorem tX0_copyLockFrom (l : Launch) (X : lk_G) (d : Nat) (σ : lk_N) (τ : lk_T) (c : Nat) (hc : lk_ko c = 0) (o : Nat) (ho : lk_ko o = 0) (hco : ¬ c = o) (n k : Nat) (hn : σ c 0 0 = nI n) (hk : k < n) (hn6 : n ≤ 6) (h01 : ∀ k, k < 6 → σ o 5 k = 0 ∨ σ o 5 k = 1) : lk_Mt l X mX0_copyLockFrom (d + 1) [lk_vr c 0, lk_vr o 0, lk_vi (nI (k))] σ τ (fun rr σ1 τ1 => rr = none ∧ σ1 = lk_so σ c (lk_clf (σ o) (σ c) k) ∧ τ1 = τ) := by
  refine lk_met (L := [(0, lk_vr c 0), (1, lk_vr o 0), (2, lk_vi (nI (k)))]) (by decide +kernel) (Nat.le_of_ble_eq_true rfl) rfl ?_
  obtain ⟨Q, hQ⟩ : ∃ Q : lk_Q, Q = fun rr σ1 τ1 => rr = none ∧ σ1 = lk_so σ c (lk_clf (σ o) (σ c) k) ∧ τ1 = τ := ⟨_, rfl⟩
  rw [← hQ]
  have hoc : ¬ o = c := fun e => hco e.symm
  refine lk_aload_n dX0_copyLockFrom_0 rfl rfl ?_
  refine lk_iload_n dX0_copyLockFrom_1 rfl rfl ?_
  refine lk_callV (o := c) (as := [lk_vi (nI (k))]) (S := []) dX0_copyLockFrom_2 rfl vX0_hasLock rfl lX0_68 hc rfl (Nat.le_of_ble_eq_true rfl) (tX0_hasLock_in l X d σ τ (c := c) (k := (k)) (hc := hc) (n := n) (hn := hn) (hk := hk) (hn6 := hn6)) ?_
  refine lk_k3 ?_
  refine lk_cast (pc' := 5) (S' := [lk_vi 1]) rfl rfl rfl ?_
  refine lk_if_ne (tgt := 9) dX0_copyLockFrom_5 (by decide) (fun h1 => ?_) (fun h1 => absurd h1 (by decide))
  refine lk_aload_n dX0_copyLockFrom_9 rfl rfl ?_
  refine lk_getR (f := 4) dX0_copyLockFrom_10 hc fX0_18 (by decide) (by decide) ?_
  refine lk_iload_n dX0_copyLockFrom_13 rfl rfl ?_
  refine lk_aload_n dX0_copyLockFrom_14 rfl rfl ?_
  refine lk_getR (f := 4) dX0_copyLockFrom_15 ho fX0_18 (by decide) (by decide) ?_
  refine lk_iload_n dX0_copyLockFrom_18 rfl rfl ?_
  refine lk_ialdN (f := 4) (i := k) dX0_copyLockFrom_19 ho (by decide) rfl (by omega) (by decide) ?_
  refine lk_iastN (f := 4) (i := k) (v := (σ o 4 (k))) dX0_copyLockFrom_20 hc (by decide) rfl (by omega) (by decide) ?_
  refine lk_aload_n dX0_copyLockFrom_21 rfl rfl ?_
  refine lk_getR (f := 5) dX0_copyLockFrom_22 hc fX0_21 (by decide) (by decide) ?_
  refine lk_iload_n dX0_copyLockFrom_25 rfl rfl ?_
  refine lk_aload_n dX0_copyLockFrom_26 rfl rfl ?_
  refine lk_getR (f := 5) dX0_copyLockFrom_27 ho fX0_21 (by decide) (by decide) ?_
  refine lk_iload_n dX0_copyLockFrom_30 rfl rfl ?_
  refine lk_zaldN (f := 5) (i := k) dX0_copyLockFrom_31 ho (by decide) rfl (by omega) (by decide) ?_
  refine lk_zastN (f := 5) (i := k) (v := ((lk_up σ c 4 (k) (σ o 4 (k))) o 5 (k))) dX0_copyLockFrom_32 hc (by decide) rfl (by omega) (by decide) (by simp only [lk_up_so, lk_so_ne hoc]; exact h01 k (by omega)) ?_
  refine lk_aload_n dX0_copyLockFrom_33 rfl rfl ?_
  refine lk_getR (f := 6) dX0_copyLockFrom_34 hc fX0_25 (by decide) (by decide) ?_
  refine lk_iload_n dX0_copyLockFrom_37 rfl rfl ?_
  refine lk_aload_n dX0_copyLockFrom_38 rfl rfl ?_
  refine lk_getR (f := 6) dX0_copyLockFrom_39 ho fX0_25 (by decide) (by decide) ?_
  refine lk_iload_n dX0_copyLockFrom_42 rfl rfl ?_
  refine lk_ialdN (f := 6) (i := k) dX0_copyLockFrom_43 ho (by decide) rfl (by omega) (by decide) ?_
  refine lk_iastN (f := 6) (i := k) (v := ((lk_up (lk_up σ c 4 (k) (σ o 4 (k))) c 5 (k) ((lk_up σ c 4 (k) (σ o 4 (k))) o 5 (k))) o 6 (k))) dX0_copyLockFrom_44 hc (by decide) rfl (by omega) (by decide) ?_
  refine lk_aload_n dX0_copyLockFrom_45 rfl rfl ?_
  refine lk_getR (f := 6) dX0_copyLockFrom_46 hc fX0_25 (by decide) (by decide) ?_
  refine lk_iload_n dX0_copyLockFrom_49 rfl rfl ?_
  refine lk_iconst (v := 1) dX0_copyLockFrom_50 (by decide) ?_
  refine lk_iaddN (a := k) (b := 1) dX0_copyLockFrom_51 ?_
  refine lk_aload_n dX0_copyLockFrom_52 rfl rfl ?_
  refine lk_getR (f := 6) dX0_copyLockFrom_53 ho fX0_25 (by decide) (by decide) ?_
  refine lk_iload_n dX0_copyLockFrom_56 rfl rfl ?_
  refine lk_iconst (v := 1) dX0_copyLockFrom_57 (by decide) ?_
  refine lk_iaddN (a := k) (b := 1) dX0_copyLockFrom_58 ?_
  refine lk_ialdN (f := 6) (i := k + 1) dX0_copyLockFrom_59 ho (by decide) rfl (by omega) (by decide) ?_
  refine lk_iastN (f := 6) (i := k + 1) (v := ((lk_up (lk_up (lk_up σ c 4 (k) (σ o 4 (k))) c 5 (k) ((lk_up σ c 4 (k) (σ o 4 (k))) o 5 (k))) c 6 (k) ((lk_up (lk_up σ c 4 (k) (σ o 4 (k))) c 5 (k) ((lk_up σ c 4 (k) (σ o 4 (k))) o 5 (k))) o 6 (k))) o 6 (k + 1))) dX0_copyLockFrom_60 hc (by decide) rfl (by omega) (by decide) ?_
  refine lk_vret dX0_copyLockFrom_61 rfl ?_
  rw [hQ]
  refine ⟨rfl, ?_, rfl⟩
  simp only [lk_up_so, lk_so_so, lk_so_eq, lk_so_ne hoc, lk_clf]

set_option maxHeartbeats 4000000 in
set_option maxRecDepth 100000 in
theorem tX0_summitWater (l : Launch) (X : lk_G) (d : Nat) (σ : lk_N) (τ : lk_T) (c : Nat) (hc : lk_ko c = 0) (n : Nat) (hn : σ c 0 0 = nI n) (hn6 : n ≤ 6) : lk_Mt l X mX0_summitWater d [lk_vr c 0] σ τ (fun rr σ1 τ1 => rr = some (lk_vi (σ c 6 n)) ∧ σ1 = σ ∧ τ1 = τ) := by
  refine lk_met (L := [(0, lk_vr c 0)]) (by decide +kernel) (Nat.le_of_ble_eq_true rfl) rfl ?_
  obtain ⟨Q, hQ⟩ : ∃ Q : lk_Q, Q = fun rr σ1 τ1 => rr = some (lk_vi (σ c 6 n)) ∧ σ1 = σ ∧ τ1 = τ := ⟨_, rfl⟩
  rw [← hQ]
  refine lk_aload_n dX0_summitWater_0 rfl rfl ?_
  refine lk_getR (f := 6) dX0_summitWater_1 hc fX0_25 (by decide) (by decide) ?_
  refine lk_aload_n dX0_summitWater_4 rfl rfl ?_
  refine lk_getIv (v := nI (n)) (f := 0) dX0_summitWater_5 hc fX0_51 (by decide) (by decide) hn ?_
  refine lk_ialdN (f := 6) (i := n) dX0_summitWater_8 hc (by decide) rfl (by omega) (by decide) ?_
  refine lk_iret .int dX0_summitWater_9 rfl rfl ?_
  rw [hQ]
  exact ⟨by first | rfl | (simp [*]; done) | (simp_all; done) | grind, by first | rfl | (simp [*]; done), rfl⟩

set_option maxHeartbeats 4000000 in
set_option maxRecDepth 100000 in
theorem tX0_loseAndGain (l : Launch) (X : lk_G) (d : Nat) (σ : lk_N) (τ : lk_T) (c : Nat) (hc : lk_ko c = 0) (n : Nat) (hn : σ c 0 0 = nI n) (hn6 : n ≤ 6) : lk_Mt l X mX0_loseAndGain (d + 1) [lk_vr c 0] σ τ (fun rr σ1 τ1 => rr = none ∧ σ1 = lk_so σ c (lk_lag (σ c) n) ∧ τ1 = τ) := by
  refine lk_met (L := [(0, lk_vr c 0)]) (by decide +kernel) (Nat.le_of_ble_eq_true rfl) rfl ?_
  obtain ⟨Q, hQ⟩ : ∃ Q : lk_Q, Q = fun rr σ1 τ1 => rr = none ∧ σ1 = lk_so σ c (lk_lag (σ c) n) ∧ τ1 = τ := ⟨_, rfl⟩
  rw [← hQ]
  refine lk_aload_n dX0_loseAndGain_0 rfl rfl ?_
  refine lk_getIv (v := nI (n)) (f := 0) dX0_loseAndGain_1 hc fX0_51 (by decide) (by decide) hn ?_
  refine lk_istore_n (L' := [(0, lk_vr c 0), (1, lk_vi (nI (n)))]) dX0_loseAndGain_4 rfl (by decide +kernel) rfl ?_
  have LP5 : ∀ (fu : Nat) (i : Nat) (x : Int32), i ≤ n + 1 → x = nI i - 1 → i < fu → lk_W l X mX0_loseAndGain (d + 1) 5 [(0, lk_vr c 0), (1, lk_vi (x))] [] (lk_so σ c (lk_lsA (σ c) n i)) τ Q := by
    intro fu
    induction fu with
    | zero => intro i x hi hx hfu; exact absurd hfu (by omega)
    | succ fu ih =>
      intro i x hi hx hfu
      refine lk_iload_n dX0_loseAndGain_5 rfl rfl ?_
      subst hx
      rcases i with _ | i
      ·
        have hn1 : (lk_so σ c (lk_lsA (σ c) n 0)) c 0 0 = nI n := by rw [lk_so_eq]; simp [lk_lsA, hn]
        refine lk_if_lt (tgt := 43) dX0_loseAndGain_6 (by decide) (fun h1 => ?_) (fun h1 => absurd h1 (by intro q; exact q (by decide)))
        refine lk_aload_n dX0_loseAndGain_43 rfl rfl ?_
        refine lk_getR (f := 6) dX0_loseAndGain_44 hc fX0_25 (by decide) (by decide) ?_
        refine lk_aload_n dX0_loseAndGain_47 rfl rfl ?_
        refine lk_getIv (v := nI (n)) (f := 0) dX0_loseAndGain_48 hc fX0_51 (by decide) (by decide) hn1 ?_
        refine lk_aload_n dX0_loseAndGain_51 rfl rfl ?_
        refine lk_getR (f := 8) dX0_loseAndGain_52 hc fX0_31 (by decide) (by decide) ?_
        refine lk_aload_n dX0_loseAndGain_55 rfl rfl ?_
        refine lk_getIv (v := nI (n)) (f := 0) dX0_loseAndGain_56 hc fX0_51 (by decide) (by decide) hn1 ?_
        refine lk_ialdN (f := 8) (i := n) dX0_loseAndGain_59 hc (by decide) rfl (by omega) (by decide) ?_
        refine lk_aload_n dX0_loseAndGain_60 rfl rfl ?_
        refine lk_getR (f := 6) dX0_loseAndGain_61 hc fX0_25 (by decide) (by decide) ?_
        refine lk_aload_n dX0_loseAndGain_64 rfl rfl ?_
        refine lk_getIv (v := nI (n)) (f := 0) dX0_loseAndGain_65 hc fX0_51 (by decide) (by decide) hn1 ?_
        refine lk_ialdN (f := 6) (i := n) dX0_loseAndGain_68 hc (by decide) rfl (by omega) (by decide) ?_
        refine lk_aload_n dX0_loseAndGain_69 rfl rfl ?_
        refine lk_getI (f := 1) dX0_loseAndGain_70 hc fX0_55 (by decide) (by decide) ?_
        refine lk_iadd dX0_loseAndGain_73 ?_
        refine lk_mmin dX0_loseAndGain_74 lX0_134 (Nat.le_of_ble_eq_true rfl) ?_
        refine lk_iastN (f := 6) (i := n) (v := (if (((lk_so σ c (lk_lsA (σ c) n 0)) c 6 (n)) + ((lk_so σ c (lk_lsA (σ c) n 0)) c 1 0)) < ((lk_so σ c (lk_lsA (σ c) n 0)) c 8 (n)) then (((lk_so σ c (lk_lsA (σ c) n 0)) c 6 (n)) + ((lk_so σ c (lk_lsA (σ c) n 0)) c 1 0)) else ((lk_so σ c (lk_lsA (σ c) n 0)) c 8 (n)))) dX0_loseAndGain_77 hc (by decide) rfl (by omega) (by decide) ?_
        refine lk_vret dX0_loseAndGain_78 rfl ?_
        rw [hQ]
        refine ⟨rfl, ?_, rfl⟩
        rw [lk_up_so, lk_so_so, lk_so_eq]
        congr 1
        rw [lk_lsA_f]
        simp [lk_lag]
      ·
        rw [nI_pred]
        refine lk_if_ltN (a := i) (tgt := 43) dX0_loseAndGain_6 (by decide) (by omega) (fun h2 => absurd h2 (by omega)) (fun h2 => ?_)
        refine lk_aload_n dX0_loseAndGain_9 rfl rfl ?_
        refine lk_getR (f := 6) dX0_loseAndGain_10 hc fX0_25 (by decide) (by decide) ?_
        refine lk_iload_n dX0_loseAndGain_13 rfl rfl ?_
        refine lk_aload_n dX0_loseAndGain_14 rfl rfl ?_
        refine lk_getR (f := 7) dX0_loseAndGain_15 hc fX0_28 (by decide) (by decide) ?_
        refine lk_iload_n dX0_loseAndGain_18 rfl rfl ?_
        refine lk_ialdN (f := 7) (i := i) dX0_loseAndGain_19 hc (by decide) rfl (by omega) (by decide) ?_
        refine lk_aload_n dX0_loseAndGain_20 rfl rfl ?_
        refine lk_getR (f := 6) dX0_loseAndGain_21 hc fX0_25 (by decide) (by decide) ?_
        refine lk_iload_n dX0_loseAndGain_24 rfl rfl ?_
        refine lk_ialdN (f := 6) (i := i) dX0_loseAndGain_25 hc (by decide) rfl (by omega) (by decide) ?_
        refine lk_aload_n dX0_loseAndGain_26 rfl rfl ?_
        refine lk_getR (f := 9) dX0_loseAndGain_27 hc fX0_34 (by decide) (by decide) ?_
        refine lk_iload_n dX0_loseAndGain_30 rfl rfl ?_
        refine lk_ialdN (f := 9) (i := i) dX0_loseAndGain_31 hc (by decide) rfl (by omega) (by decide) ?_
        refine lk_isub dX0_loseAndGain_32 ?_
        refine lk_mmax dX0_loseAndGain_33 lX0_128 (Nat.le_of_ble_eq_true rfl) ?_
        refine lk_iastN (f := 6) (i := i) (v := (if ((lk_so σ c (lk_lsA (σ c) n (i + 1))) c 7 (i)) < (((lk_so σ c (lk_lsA (σ c) n (i + 1))) c 6 (i)) - ((lk_so σ c (lk_lsA (σ c) n (i + 1))) c 9 (i))) then (((lk_so σ c (lk_lsA (σ c) n (i + 1))) c 6 (i)) - ((lk_so σ c (lk_lsA (σ c) n (i + 1))) c 9 (i))) else ((lk_so σ c (lk_lsA (σ c) n (i + 1))) c 7 (i)))) dX0_loseAndGain_36 hc (by decide) rfl (by omega) (by decide) ?_
        refine lk_iinc (v := nI (i) + (-1)) (L' := [(0, lk_vr c 0), (1, lk_vi (nI (i) + (-1)))]) dX0_loseAndGain_37 rfl rfl (by decide +kernel) rfl ?_
        refine lk_goto (tgt := 5) dX0_loseAndGain_40 (by decide) ?_
        rw [lk_lsA_s _ _ (by omega)]
        exact ih i _ (by omega) (by rw [Int32.sub_eq_add_neg]) (by omega)
  rw [← lk_lsA_0 σ c n]
  exact LP5 (n + 2) (n + 1) (nI n) (by omega) (nI_pred n).symm (by omega)
