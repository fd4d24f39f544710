section LKW
variable {l : Launch} {X : lk_G} {M : lk_M} {d pc : Nat} {L : List (Nat × lk_V)} {S : List lk_V} {σ : lk_N} {τ : lk_T} {Q : lk_Q}
def lk_ush (x y : Int32) : Int32 := (x.toUInt32 >>> (y.toUInt32 &&& Int32.toUInt32 31)).toInt32
theorem lk_iushr {x y : Int32} (hd : decode M.2.1 pc = .ok (.iushr, 1)) (k : lk_W l X M d (pc + 1) L (lk_vi (lk_ush x y) :: S) σ τ Q) : lk_W l X M d pc L (lk_vi y :: lk_vi x :: S) σ τ Q :=
  fun p e s m args below meth c H locs ls C hP hD hS hl => lv_iushr C.1 C.2.1 hd rfl (k p e s m args below meth c H locs ls C hP hD hS hl)
theorem lk_ldcw {idx : Nat} {v : Int32} (hd : decode M.2.1 pc = .ok (.ldc_w idx, 3)) (hw : Cond.constant M.1.cls idx v ∈ lk_AW) (k : lk_W l X M d (pc + 3) L (lk_vi v :: S) σ τ Q) : lk_W l X M d pc L S σ τ Q :=
  fun p e s m args below meth c H locs ls C hP hD hS hl => lv_ldcw C.1 C.2.1 C.2.2.2.2.1 (C.2.2.2.2.2.1 _ (List.mem_cons_of_mem _ hw)) hd (k p e s m args below meth c H locs ls C hP hD hS hl)
end LKW
def lk_b1 (x : Int32) : Int32 := x - (lk_ush x 1 &&& 1431655765)
def lk_b2 (x : Int32) : Int32 := (x &&& 858993459) + (lk_ush x 2 &&& 858993459)
def lk_b3 (x : Int32) : Int32 := x + lk_ush x 4 &&& 252645135
/-- what the library's count of ones reckons -/
def lk_bc (x : Int32) : Int32 := (fun y => (fun z => z + lk_ush z 16) (y + lk_ush y 8)) (lk_b3 (lk_b2 (lk_b1 x))) &&& 63
/-- the ones among the r lowest of a mask -/
def lk_onz : Nat → Nat → Nat
  | 0, _ => 0
  | r + 1, m => lk_onz r m + m / 2 ^ r % 2
theorem lk_bc_64 : ∀ a, a < 64 → ∀ b, b < 64 → lk_bc (nI (64 * a + b)) = nI (lk_onz 12 (64 * a + b)) := by decide +kernel
theorem lk_bc_n {m : Nat} (h : m < 4096) : lk_bc (nI m) = nI (lk_onz 12 m) := by
  have := lk_bc_64 (m / 64) (by omega) (m % 64) (by omega)
  rwa [show 64 * (m / 64) + m % 64 = m by omega] at this
theorem lk_onz_up {m N : Nat} (h : m < 2 ^ N) : ∀ r, lk_onz (N + r) m = lk_onz N m
  | 0 => rfl
  | r + 1 => by
    have : m / 2 ^ (N + r) = 0 := Nat.div_eq_of_lt (Nat.lt_of_lt_of_le h (Nat.pow_le_pow_right (by decide) (by omega)))
    show lk_onz (N + r) m + m / 2 ^ (N + r) % 2 = _
    rw [this, lk_onz_up h r]; rfl
theorem lk_bc_N {m N : Nat} (hN : N ≤ 12) (h : m < 2 ^ N) : lk_bc (nI m) = nI (lk_onz N m) := by
  have h12 : m < 4096 := Nat.lt_of_lt_of_le h (Nat.le_trans (Nat.pow_le_pow_right (n := 2) (by decide) hN) (show 2 ^ 12 ≤ 4096 by decide))
  rw [lk_bc_n h12]
  have := lk_onz_up h (12 - N)
  rw [show N + (12 - N) = 12 by omega] at this
  rw [this]
theorem lk_shr_64 : ∀ k, k < 12 → ∀ a, a < 64 → ∀ b, b < 64 → (nI (64 * a + b) >>> (nI k &&& 31)) &&& 1 = nI ((64 * a + b) / 2 ^ k % 2) := by decide +kernel
theorem lk_shr_n {m k : Nat} (hk : k < 12) (h : m < 4096) : (nI m >>> (nI k &&& 31)) &&& 1 = nI (m / 2 ^ k % 2) := by
  have := lk_shr_64 k hk (m / 64) (by omega) (m % 64) (by omega)
  rwa [show 64 * (m / 64) + m % 64 = m by omega] at this
/-- the weaving's numbers -/
def lk_ww (N a g : Nat) (s : Int32) (b : Nat) : lk_O := fun f _ => if f = 0 then nI N else if f = 1 then nI a else if f = 2 then nI g else if f = 3 then s else nI b
theorem lk_min6 {n : Nat} (h : n ≤ 22) : (if (6 : Int32) < nI n then 6 else nI n) = nI (min n 6) :=
  (by decide : ∀ n, n < 23 → (if (6 : Int32) < nI n then 6 else nI n) = nI (min n 6)) n (by omega)
theorem lk_inr7 {c f i : Nat} (hc : lk_ko c = 7) (h : lk_inr c f i) : f < 5 ∧ i = 0 := by
  unfold lk_inr at h
  rw [hc] at h
  have hf : f < 5 := by
    rcases Nat.lt_or_ge f 5 with q | q
    · exact q
    · have : lk_fk 7 f = (9, 0) := by
        unfold lk_fk
        rw [List.getD_eq_getElem?_getD, List.getElem?_eq_none (show (lk_fks.getD 7 []).length ≤ f from q)]
        rfl
      rw [this] at h
      simp at h
  have key : ∀ f, f < 5 → (lk_fk 7 f).1 = 0 := by decide +kernel
  have := key f hf
  omega
theorem lk_onz_le : ∀ (r m : Nat), lk_onz r m ≤ r
  | 0, _ => Nat.le_refl _
  | r + 1, m => by
    have := lk_onz_le r m
    show lk_onz r m + m / 2 ^ r % 2 ≤ r + 1
    omega
set_option maxHeartbeats 1000000 in
set_option maxRecDepth 100000 in
theorem tJ6_bitCount_0f7a4 (l : Launch) (X : lk_G) (d : Nat) (σ : lk_N) (τ : lk_T) (v : Int32) : lk_Mt l X mJ6_bitCount_0f7a4 d [lk_vi (v)] σ τ (fun rr σ1 τ1 => rr = some (lk_vi (lk_bc v)) ∧ σ1 = σ ∧ τ1 = τ) := by
  refine lk_met (L := [(0, lk_vi (v))]) (by decide +kernel) (Nat.le_of_ble_eq_true rfl) rfl ?_
  obtain ⟨Q, hQ⟩ : ∃ Q : lk_Q, Q = fun rr σ1 τ1 => rr = some (lk_vi (lk_bc v)) ∧ σ1 = σ ∧ τ1 = τ := ⟨_, rfl⟩
  rw [← hQ]
  refine lk_iload_n dJ6_bitCount_0f7a4_0 rfl rfl ?_
  refine lk_iload_n dJ6_bitCount_0f7a4_1 rfl rfl ?_
  refine lk_iconst (v := 1) dJ6_bitCount_0f7a4_2 (by decide) ?_
  refine lk_iushr dJ6_bitCount_0f7a4_3 ?_
  refine lk_ldcw dJ6_bitCount_0f7a4_4 kJ6_265 ?_
  refine lk_iand dJ6_bitCount_0f7a4_7 ?_
  refine lk_isub dJ6_bitCount_0f7a4_8 ?_
  refine lk_istore_n (L' := [(0, lk_vi ((v) - ((lk_ush ((v)) (1)) &&& 1431655765)))]) dJ6_bitCount_0f7a4_9 rfl (by decide +kernel) rfl ?_
  refine lk_iload_n dJ6_bitCount_0f7a4_10 rfl rfl ?_
  refine lk_ldcw dJ6_bitCount_0f7a4_11 kJ6_266 ?_
  refine lk_iand dJ6_bitCount_0f7a4_14 ?_
  refine lk_iload_n dJ6_bitCount_0f7a4_15 rfl rfl ?_
  refine lk_iconst (v := 2) dJ6_bitCount_0f7a4_16 (by decide) ?_
  refine lk_iushr dJ6_bitCount_0f7a4_17 ?_
  refine lk_ldcw dJ6_bitCount_0f7a4_18 kJ6_266 ?_
  refine lk_iand dJ6_bitCount_0f7a4_21 ?_
  refine lk_iadd dJ6_bitCount_0f7a4_22 ?_
  refine lk_istore_n (L' := [(0, lk_vi ((((v) - ((lk_ush ((v)) (1)) &&& 1431655765)) &&& 858993459) + ((lk_ush (((v) - ((lk_ush ((v)) (1)) &&& 1431655765))) (2)) &&& 858993459)))]) dJ6_bitCount_0f7a4_23 rfl (by decide +kernel) rfl ?_
  refine lk_iload_n dJ6_bitCount_0f7a4_24 rfl rfl ?_
  refine lk_iload_n dJ6_bitCount_0f7a4_25 rfl rfl ?_
  refine lk_iconst (v := 4) dJ6_bitCount_0f7a4_26 (by decide) ?_
  refine lk_iushr dJ6_bitCount_0f7a4_27 ?_
  refine lk_iadd dJ6_bitCount_0f7a4_28 ?_
  refine lk_ldcw dJ6_bitCount_0f7a4_29 kJ6_267 ?_
  refine lk_iand dJ6_bitCount_0f7a4_32 ?_
  refine lk_istore_n (L' := [(0, lk_vi ((((((v) - ((lk_ush ((v)) (1)) &&& 1431655765)) &&& 858993459) + ((lk_ush (((v) - ((lk_ush ((v)) (1)) &&& 1431655765))) (2)) &&& 858993459)) + (lk_ush (((((v) - ((lk_ush ((v)) (1)) &&& 1431655765)) &&& 858993459) + ((lk_ush (((v) - ((lk_ush ((v)) (1)) &&& 1431655765))) (2)) &&& 858993459))) (4))) &&& 252645135))]) dJ6_bitCount_0f7a4_33 rfl (by decide +kernel) rfl ?_
  refine lk_iload_n dJ6_bitCount_0f7a4_34 rfl rfl ?_
  refine lk_iload_n dJ6_bitCount_0f7a4_35 rfl rfl ?_
  refine lk_bipush (v := 8) dJ6_bitCount_0f7a4_36 (by decide) ?_
  refine lk_iushr dJ6_bitCount_0f7a4_38 ?_
  refine lk_iadd dJ6_bitCount_0f7a4_39 ?_
  refine lk_istore_n (L' := [(0, lk_vi (((((((v) - ((lk_ush ((v)) (1)) &&& 1431655765)) &&& 858993459) + ((lk_ush (((v) - ((lk_ush ((v)) (1)) &&& 1431655765))) (2)) &&& 858993459)) + (lk_ush (((((v) - ((lk_ush ((v)) (1)) &&& 1431655765)) &&& 858993459) + ((lk_ush (((v) - ((lk_ush ((v)) (1)) &&& 1431655765))) (2)) &&& 858993459))) (4))) &&& 252645135) + (lk_ush (((((((v) - ((lk_ush ((v)) (1)) &&& 1431655765)) &&& 858993459) + ((lk_ush (((v) - ((lk_ush ((v)) (1)) &&& 1431655765))) (2)) &&& 858993459)) + (lk_ush (((((v) - ((lk_ush ((v)) (1)) &&& 1431655765)) &&& 858993459) + ((lk_ush (((v) - ((lk_ush ((v)) (1)) &&& 1431655765))) (2)) &&& 858993459))) (4))) &&& 252645135)) (8))))]) dJ6_bitCount_0f7a4_40 rfl (by decide +kernel) rfl ?_
  refine lk_iload_n dJ6_bitCount_0f7a4_41 rfl rfl ?_
  refine lk_iload_n dJ6_bitCount_0f7a4_42 rfl rfl ?_
  refine lk_bipush (v := 16) dJ6_bitCount_0f7a4_43 (by decide) ?_
  refine lk_iushr dJ6_bitCount_0f7a4_45 ?_
  refine lk_iadd dJ6_bitCount_0f7a4_46 ?_
  refine lk_istore_n (L' := [(0, lk_vi ((((((((v) - ((lk_ush ((v)) (1)) &&& 1431655765)) &&& 858993459) + ((lk_ush (((v) - ((lk_ush ((v)) (1)) &&& 1431655765))) (2)) &&& 858993459)) + (lk_ush (((((v) - ((lk_ush ((v)) (1)) &&& 1431655765)) &&& 858993459) + ((lk_ush (((v) - ((lk_ush ((v)) (1)) &&& 1431655765))) (2)) &&& 858993459))) (4))) &&& 252645135) + (lk_ush (((((((v) - ((lk_ush ((v)) (1)) &&& 1431655765)) &&& 858993459) + ((lk_ush (((v) - ((lk_ush ((v)) (1)) &&& 1431655765))) (2)) &&& 858993459)) + (lk_ush (((((v) - ((lk_ush ((v)) (1)) &&& 1431655765)) &&& 858993459) + ((lk_ush (((v) - ((lk_ush ((v)) (1)) &&& 1431655765))) (2)) &&& 858993459))) (4))) &&& 252645135)) (8))) + (lk_ush ((((((((v) - ((lk_ush ((v)) (1)) &&& 1431655765)) &&& 858993459) + ((lk_ush (((v) - ((lk_ush ((v)) (1)) &&& 1431655765))) (2)) &&& 858993459)) + (lk_ush (((((v) - ((lk_ush ((v)) (1)) &&& 1431655765)) &&& 858993459) + ((lk_ush (((v) - ((lk_ush ((v)) (1)) &&& 1431655765))) (2)) &&& 858993459))) (4))) &&& 252645135) + (lk_ush (((((((v) - ((lk_ush ((v)) (1)) &&& 1431655765)) &&& 858993459) + ((lk_ush (((v) - ((lk_ush ((v)) (1)) &&& 1431655765))) (2)) &&& 858993459)) + (lk_ush (((((v) - ((lk_ush ((v)) (1)) &&& 1431655765)) &&& 858993459) + ((lk_ush (((v) - ((lk_ush ((v)) (1)) &&& 1431655765))) (2)) &&& 858993459))) (4))) &&& 252645135)) (8)))) (16))))]) dJ6_bitCount_0f7a4_47 rfl (by decide +kernel) rfl ?_
  refine lk_iload_n dJ6_bitCount_0f7a4_48 rfl rfl ?_
  refine lk_bipush (v := 63) dJ6_bitCount_0f7a4_49 (by decide) ?_
  refine lk_iand dJ6_bitCount_0f7a4_51 ?_
  refine lk_iret .int dJ6_bitCount_0f7a4_52 rfl rfl ?_
  rw [hQ]
  exact ⟨by first | rfl | (simp [*]; done) | (simp_all; done) | grind, by first | rfl | (simp [*]; done), rfl⟩

set_option maxHeartbeats 1000000 in
set_option maxRecDepth 100000 in
theorem tX7_begin (l : Launch) (X : lk_G) (d : Nat) (σ : lk_N) (τ : lk_T) (nb na : Nat) (hnb : σ 15 1 0 = nI nb) (hna : σ 16 1 0 = nI na) (hb22 : nb ≤ 22) (ha22 : na ≤ 22) : lk_Mt l X mX7_begin (d + 1) [lk_vr 18 0, lk_vr 15 0, lk_vr 16 0] σ τ (fun rr σ1 τ1 => rr = none ∧ σ1 = lk_so σ 18 (lk_ww (min na 6 + min nb 6) (min na 6) 0 0 0) ∧ τ1 = τ) := by
  refine lk_met (L := [(0, lk_vr 18 0), (1, lk_vr 15 0), (2, lk_vr 16 0)]) (by decide +kernel) (Nat.le_of_ble_eq_true rfl) rfl ?_
  obtain ⟨Q, hQ⟩ : ∃ Q : lk_Q, Q = fun rr σ1 τ1 => rr = none ∧ σ1 = lk_so σ 18 (lk_ww (min na 6 + min nb 6) (min na 6) 0 0 0) ∧ τ1 = τ := ⟨_, rfl⟩
  rw [← hQ]
  refine lk_aload_n dX7_begin_0 rfl rfl ?_
  refine lk_aload_n dX7_begin_1 rfl rfl ?_
  refine lk_getIv (v := (nI (na))) (f := 1) dX7_begin_2 rfl fX7_9 (by decide) (by decide) hna ?_
  refine lk_bipush (v := 6) dX7_begin_5 (by decide) ?_
  refine lk_mmin dX7_begin_7 lX7_17 (Nat.le_of_ble_eq_true rfl) ?_
  refine lk_eqtop (y := (nI (min na 6))) (lk_min6 ha22) ?_
  refine lk_putI (f := 1) dX7_begin_10 rfl fX7_23 (by decide) (by decide) ?_
  refine lk_aload_n dX7_begin_13 rfl rfl ?_
  refine lk_aload_n dX7_begin_14 rfl rfl ?_
  refine lk_getIv (v := (nI (min na 6))) (f := 1) dX7_begin_15 rfl fX7_23 (by decide) (by decide) (by simp [lk_up]) ?_
  refine lk_aload_n dX7_begin_18 rfl rfl ?_
  refine lk_getIv (v := (nI (nb))) (f := 1) dX7_begin_19 rfl fX7_9 (by decide) (by decide) (by simp [lk_up, hnb]) ?_
  refine lk_bipush (v := 6) dX7_begin_22 (by decide) ?_
  refine lk_mmin dX7_begin_24 lX7_17 (Nat.le_of_ble_eq_true rfl) ?_
  refine lk_eqtop (y := (nI (min nb 6))) (lk_min6 hb22) ?_
  refine lk_iaddN (a := min na 6) (b := min nb 6) dX7_begin_27 ?_
  refine lk_putI (f := 0) dX7_begin_28 rfl fX7_26 (by decide) (by decide) ?_
  refine lk_aload_n dX7_begin_31 rfl rfl ?_
  refine lk_iconst (v := 0) dX7_begin_32 (by decide) ?_
  refine lk_putI (f := 2) dX7_begin_33 rfl fX7_29 (by decide) (by decide) ?_
  refine lk_aload_n dX7_begin_36 rfl rfl ?_
  refine lk_iconst (v := 0) dX7_begin_37 (by decide) ?_
  refine lk_putI (f := 3) dX7_begin_38 rfl fX7_32 (by decide) (by decide) ?_
  refine lk_aload_n dX7_begin_41 rfl rfl ?_
  refine lk_iconst (v := 0) dX7_begin_42 (by decide) ?_
  refine lk_putI (f := 4) dX7_begin_43 rfl fX7_35 (by decide) (by decide) ?_
  refine lk_ext (σ' := lk_so σ 18 (lk_ww (min na 6 + min nb 6) (min na 6) 0 0 0)) (fun o f1 i1 hin => ?_) ?_
  · by_cases ho : o = 18
    · subst ho
      obtain ⟨h5, h0⟩ := lk_inr7 rfl hin
      subst h0
      rw [lk_so_eq]
      simp only [lk_up, lk_ww, lk_nI0]
      rcases (show f1 = 0 ∨ f1 = 1 ∨ f1 = 2 ∨ f1 = 3 ∨ f1 = 4 by omega) with rfl | rfl | rfl | rfl | rfl <;> simp [lk_nI0]
    · rw [lk_so_ne ho]
      simp [lk_up, ho]
  refine lk_vret dX7_begin_46 rfl ?_
  rw [hQ]
  exact ⟨by first | rfl | (simp [*]; done) | (simp_all; done) | grind, by first | rfl | (simp [*]; done), rfl⟩

set_option maxHeartbeats 1000000 in
set_option maxRecDepth 100000 in
theorem tX7_isOrder (l : Launch) (X : lk_G) (d : Nat) (σ : lk_N) (τ : lk_T) (N a g b : Nat) (s : Int32) (hW : σ 18 = lk_ww N a g s b) (hN : N ≤ 12) (m : Nat) (haN : a ≤ 12) (hm : m < 2 ^ N) : lk_Mt l X mX7_isOrder (d + 1) [lk_vr 18 0, lk_vi (nI (m))] σ τ (fun rr σ1 τ1 => rr = some (lk_vi (if lk_onz N m = a then 1 else 0)) ∧ σ1 = σ ∧ τ1 = τ) := by
  refine lk_met (L := [(0, lk_vr 18 0), (1, lk_vi (nI (m)))]) (by decide +kernel) (Nat.le_of_ble_eq_true rfl) rfl ?_
  obtain ⟨Q, hQ⟩ : ∃ Q : lk_Q, Q = fun rr σ1 τ1 => rr = some (lk_vi (if lk_onz N m = a then 1 else 0)) ∧ σ1 = σ ∧ τ1 = τ := ⟨_, rfl⟩
  rw [← hQ]
  have hpl : lk_onz N m ≤ N := lk_onz_le N m
  refine lk_iload_n dX7_isOrder_0 rfl rfl ?_
  refine lk_callS (as := [lk_vi (nI (m))]) (S := []) dX7_isOrder_1 rfl vJ6_bitCount_0f7a4 rfl lX7_38 (Nat.le_of_ble_eq_true rfl) (tJ6_bitCount_0f7a4 l X d σ τ (v := (nI (m))) ) ?_
  refine lk_k3 ?_
  refine lk_cast (pc' := 4) (S' := [lk_vi (lk_bc (nI (m)))]) rfl rfl rfl ?_
  refine lk_eqtop (y := (nI (lk_onz N m))) (lk_bc_N hN hm) ?_
  refine lk_aload_n dX7_isOrder_4 rfl rfl ?_
  refine lk_getIv (v := (nI (a))) (f := 1) dX7_isOrder_5 rfl fX7_23 (by decide) (by decide) (by rw [hW]; rfl) ?_
  refine lk_icmp_neN (a := lk_onz N m) (b := a) (tgt := 15) dX7_isOrder_8 (by decide) (by omega) (by omega) (fun hh1 => ?_) (fun hh1 => ?_)
  ·
    refine lk_iconst (v := 0) dX7_isOrder_15 (by decide) ?_
    refine lk_iret .boolean dX7_isOrder_16 rfl rfl ?_
    rw [hQ]
    refine ⟨?_, rfl, rfl⟩
    first | rw [if_pos (by assumption)] | rw [if_neg (by assumption)]
  ·
    refine lk_iconst (v := 1) dX7_isOrder_11 (by decide) ?_
    refine lk_goto (tgt := 16) dX7_isOrder_12 (by decide) ?_
    refine lk_iret .boolean dX7_isOrder_16 rfl rfl ?_
    rw [hQ]
    refine ⟨?_, rfl, rfl⟩
    first | rw [if_pos (by assumption)] | rw [if_neg (by assumption)]

set_option maxHeartbeats 1000000 in
set_option maxRecDepth 100000 in
theorem tX7_isFromBelow (l : Launch) (X : lk_G) (d : Nat) (σ : lk_N) (τ : lk_T) (N a g b : Nat) (s : Int32) (hW : σ 18 = lk_ww N a g s b) (hN : N ≤ 12) (m i : Nat) (hm : m < 2 ^ N) (hi : i < N) : lk_Mt l X mX7_isFromBelow d [lk_vr 18 0, lk_vi (nI (m)), lk_vi (nI (i))] σ τ (fun rr σ1 τ1 => rr = some (lk_vi (if m / 2 ^ (N - 1 - i) % 2 = 0 then 1 else 0)) ∧ σ1 = σ ∧ τ1 = τ) := by
  refine lk_met (L := [(0, lk_vr 18 0), (1, lk_vi (nI (m))), (2, lk_vi (nI (i)))]) (by decide +kernel) (Nat.le_of_ble_eq_true rfl) rfl ?_
  obtain ⟨Q, hQ⟩ : ∃ Q : lk_Q, Q = fun rr σ1 τ1 => rr = some (lk_vi (if m / 2 ^ (N - 1 - i) % 2 = 0 then 1 else 0)) ∧ σ1 = σ ∧ τ1 = τ := ⟨_, rfl⟩
  rw [← hQ]
  have h12 : m < 4096 := Nat.lt_of_lt_of_le hm (Nat.le_trans (Nat.pow_le_pow_right (n := 2) (by decide) hN) (show 2 ^ 12 ≤ 4096 by decide))
  refine lk_iload_n dX7_isFromBelow_0 rfl rfl ?_
  refine lk_aload_n dX7_isFromBelow_1 rfl rfl ?_
  refine lk_getIv (v := (nI (N))) (f := 0) dX7_isFromBelow_2 rfl fX7_26 (by decide) (by decide) (by rw [hW]; rfl) ?_
  refine lk_iconst (v := 1) dX7_isFromBelow_5 (by decide) ?_
  refine lk_isubN (a := N) (b := 1) dX7_isFromBelow_6 (by omega) ?_
  refine lk_iload_n dX7_isFromBelow_7 rfl rfl ?_
  refine lk_isubN (a := (N) - (1)) (b := i) dX7_isFromBelow_8 (by omega) ?_
  refine lk_ishr dX7_isFromBelow_9 ?_
  refine lk_iconst (v := 1) dX7_isFromBelow_10 (by decide) ?_
  refine lk_iand dX7_isFromBelow_11 ?_
  refine lk_eqtop (y := (nI (m / 2 ^ (N - 1 - i) % 2))) (lk_shr_n (by omega) h12) ?_
  refine lk_if_neN (a := m / 2 ^ (N - 1 - i) % 2) (tgt := 19) dX7_isFromBelow_12 (by decide) (by omega) (fun hh1 => ?_) (fun hh1 => ?_)
  ·
    refine lk_iconst (v := 0) dX7_isFromBelow_19 (by decide) ?_
    refine lk_iret .boolean dX7_isFromBelow_20 rfl rfl ?_
    rw [hQ]
    refine ⟨?_, rfl, rfl⟩
    first | rw [if_pos (by omega)] | rw [if_neg (by omega)]
  ·
    refine lk_iconst (v := 1) dX7_isFromBelow_15 (by decide) ?_
    refine lk_goto (tgt := 20) dX7_isFromBelow_16 (by decide) ?_
    refine lk_iret .boolean dX7_isFromBelow_20 rfl rfl ?_
    rw [hQ]
    refine ⟨?_, rfl, rfl⟩
    first | rw [if_pos (by omega)] | rw [if_neg (by omega)]

set_option maxHeartbeats 1000000 in
set_option maxRecDepth 100000 in
theorem tX7_weigh_no (l : Launch) (X : lk_G) (d : Nat) (σ : lk_N) (τ : lk_T) (N a g b : Nat) (s : Int32) (hW : σ 18 = lk_ww N a g s b) (hN : N ≤ 12) (m : Nat) (z : Int32) (h : z = -2000002) : lk_Mt l X mX7_weigh d [lk_vr 18 0, lk_vi (nI (m)), lk_vi (z)] σ τ (fun rr σ1 τ1 => rr = none ∧ σ1 = σ ∧ τ1 = τ) := by
  refine lk_met (L := [(0, lk_vr 18 0), (1, lk_vi (nI (m))), (2, lk_vi (z))]) (by decide +kernel) (Nat.le_of_ble_eq_true rfl) rfl ?_
  obtain ⟨Q, hQ⟩ : ∃ Q : lk_Q, Q = fun rr σ1 τ1 => rr = none ∧ σ1 = σ ∧ τ1 = τ := ⟨_, rfl⟩
  rw [← hQ]
  refine lk_iload_n dX7_weigh_0 rfl rfl ?_
  refine lk_ldc dX7_weigh_1 kX7_44 ?_
  refine lk_icmp_ne (tgt := 7) dX7_weigh_3 (by decide) (fun hh1 => absurd hh1 (fun q => q h)) (fun hh1 => ?_)
  refine lk_vret dX7_weigh_6 rfl ?_
  rw [hQ]
  exact ⟨by first | rfl | (simp [*]; done) | (simp_all; done) | grind, by first | rfl | (simp [*]; done), rfl⟩

set_option maxHeartbeats 1000000 in
set_option maxRecDepth 100000 in
theorem tX7_weigh_ok (l : Launch) (X : lk_G) (d : Nat) (σ : lk_N) (τ : lk_T) (N a g b : Nat) (s : Int32) (hW : σ 18 = lk_ww N a g s b) (hN : N ≤ 12) (m : Nat) (z : Int32) (h : ¬ z = -2000002) (hg : g ≤ 4096) : lk_Mt l X mX7_weigh d [lk_vr 18 0, lk_vi (nI (m)), lk_vi (z)] σ τ (fun rr σ1 τ1 => rr = none ∧ σ1 = lk_so σ 18 (lk_ww N a (g + 1) (if g = 0 ∨ z < s then z else s) (if g = 0 ∨ z < s then m else b)) ∧ τ1 = τ) := by
  refine lk_met (L := [(0, lk_vr 18 0), (1, lk_vi (nI (m))), (2, lk_vi (z))]) (by decide +kernel) (Nat.le_of_ble_eq_true rfl) rfl ?_
  obtain ⟨Q, hQ⟩ : ∃ Q : lk_Q, Q = fun rr σ1 τ1 => rr = none ∧ σ1 = lk_so σ 18 (lk_ww N a (g + 1) (if g = 0 ∨ z < s then z else s) (if g = 0 ∨ z < s then m else b)) ∧ τ1 = τ := ⟨_, rfl⟩
  rw [← hQ]
  refine lk_iload_n dX7_weigh_0 rfl rfl ?_
  refine lk_ldc dX7_weigh_1 kX7_44 ?_
  refine lk_icmp_ne (tgt := 7) dX7_weigh_3 (by decide) (fun hh1 => ?_) (fun hh1 => absurd hh1 h)
  refine lk_aload_n dX7_weigh_7 rfl rfl ?_
  refine lk_getIv (v := (nI (g))) (f := 2) dX7_weigh_8 rfl fX7_29 (by decide) (by decide) (by rw [hW]; rfl) ?_
  refine lk_if_eqN (a := g) (tgt := 22) dX7_weigh_11 (by decide) (by omega) (fun hh2 => ?_) (fun hh2 => ?_)
  ·
    refine lk_aload_n dX7_weigh_22 rfl rfl ?_
    refine lk_iload_n dX7_weigh_23 rfl rfl ?_
    refine lk_putI (f := 3) dX7_weigh_24 rfl fX7_32 (by decide) (by decide) ?_
    refine lk_aload_n dX7_weigh_27 rfl rfl ?_
    refine lk_iload_n dX7_weigh_28 rfl rfl ?_
    refine lk_putI (f := 4) dX7_weigh_29 rfl fX7_35 (by decide) (by decide) ?_
    refine lk_aload_n dX7_weigh_32 rfl rfl ?_
    refine lk_dup dX7_weigh_33 rfl ?_
    refine lk_getIv (v := (nI (g))) (f := 2) dX7_weigh_34 rfl fX7_29 (by decide) (by decide) (by simp [lk_up, hW, lk_ww]) ?_
    refine lk_iconst (v := 1) dX7_weigh_37 (by decide) ?_
    refine lk_iaddN (a := g) (b := 1) dX7_weigh_38 ?_
    refine lk_putI (f := 2) dX7_weigh_39 rfl fX7_29 (by decide) (by decide) ?_
    have hc : g = 0 ∨ (¬ g = 0 ∧ z < s) ∨ (¬ g = 0 ∧ ¬ z < s) := by grind
    have hz : z < s ∨ ¬ z < s := by grind
    first
      | have hc := Int32.not_lt.mpr (show s ≤ z by assumption)
      | have hc := Int32.not_le.mp (show ¬ s ≤ z by assumption)
      | skip
    refine lk_ext (σ' := lk_so σ 18 (lk_ww N a (g + 1) (if g = 0 ∨ z < s then z else s) (if g = 0 ∨ z < s then m else b))) (fun o f1 i1 hin => ?_) ?_
    · by_cases ho : o = 18
      · subst ho
        obtain ⟨h5, h0⟩ := lk_inr7 rfl hin
        subst h0
        rw [lk_so_eq]
        simp only [lk_up, lk_ww, lk_nI0]
        rcases (show f1 = 0 ∨ f1 = 1 ∨ f1 = 2 ∨ f1 = 3 ∨ f1 = 4 by omega) with rfl | rfl | rfl | rfl | rfl <;> simp [hW, lk_ww, *]
      · rw [lk_so_ne ho]
        simp [lk_up, ho]
    refine lk_vret dX7_weigh_42 rfl ?_
    rw [hQ]
    exact ⟨by first | rfl | (simp [*]; done) | (simp_all; done) | grind, by first | rfl | (simp [*]; done), rfl⟩
  ·
    refine lk_iload_n dX7_weigh_14 rfl rfl ?_
    refine lk_aload_n dX7_weigh_15 rfl rfl ?_
    refine lk_getIv (v := (s)) (f := 3) dX7_weigh_16 rfl fX7_32 (by decide) (by decide) (by rw [hW]; rfl) ?_
    refine lk_icmp_ge (tgt := 32) dX7_weigh_19 (by decide) (fun hh3 => ?_) (fun hh3 => ?_)
    ·
      refine lk_aload_n dX7_weigh_32 rfl rfl ?_
      refine lk_dup dX7_weigh_33 rfl ?_
      refine lk_getIv (v := (nI (g))) (f := 2) dX7_weigh_34 rfl fX7_29 (by decide) (by decide) (by simp [lk_up, hW, lk_ww]) ?_
      refine lk_iconst (v := 1) dX7_weigh_37 (by decide) ?_
      refine lk_iaddN (a := g) (b := 1) dX7_weigh_38 ?_
      refine lk_putI (f := 2) dX7_weigh_39 rfl fX7_29 (by decide) (by decide) ?_
      have hc : g = 0 ∨ (¬ g = 0 ∧ z < s) ∨ (¬ g = 0 ∧ ¬ z < s) := by grind
      have hz : z < s ∨ ¬ z < s := by grind
      first
        | have hc := Int32.not_lt.mpr (show s ≤ z by assumption)
        | have hc := Int32.not_le.mp (show ¬ s ≤ z by assumption)
        | skip
      refine lk_ext (σ' := lk_so σ 18 (lk_ww N a (g + 1) (if g = 0 ∨ z < s then z else s) (if g = 0 ∨ z < s then m else b))) (fun o f1 i1 hin => ?_) ?_
      · by_cases ho : o = 18
        · subst ho
          obtain ⟨h5, h0⟩ := lk_inr7 rfl hin
          subst h0
          rw [lk_so_eq]
          simp only [lk_up, lk_ww, lk_nI0]
          rcases (show f1 = 0 ∨ f1 = 1 ∨ f1 = 2 ∨ f1 = 3 ∨ f1 = 4 by omega) with rfl | rfl | rfl | rfl | rfl <;> simp [hW, lk_ww, *]
        · rw [lk_so_ne ho]
          simp [lk_up, ho]
      refine lk_vret dX7_weigh_42 rfl ?_
      rw [hQ]
      exact ⟨by first | rfl | (simp [*]; done) | (simp_all; done) | grind, by first | rfl | (simp [*]; done), rfl⟩
    ·
      refine lk_aload_n dX7_weigh_22 rfl rfl ?_
      refine lk_iload_n dX7_weigh_23 rfl rfl ?_
      refine lk_putI (f := 3) dX7_weigh_24 rfl fX7_32 (by decide) (by decide) ?_
      refine lk_aload_n dX7_weigh_27 rfl rfl ?_
      refine lk_iload_n dX7_weigh_28 rfl rfl ?_
      refine lk_putI (f := 4) dX7_weigh_29 rfl fX7_35 (by decide) (by decide) ?_
      refine lk_aload_n dX7_weigh_32 rfl rfl ?_
      refine lk_dup dX7_weigh_33 rfl ?_
      refine lk_getIv (v := (nI (g))) (f := 2) dX7_weigh_34 rfl fX7_29 (by decide) (by decide) (by simp [lk_up, hW, lk_ww]) ?_
      refine lk_iconst (v := 1) dX7_weigh_37 (by decide) ?_
      refine lk_iaddN (a := g) (b := 1) dX7_weigh_38 ?_
      refine lk_putI (f := 2) dX7_weigh_39 rfl fX7_29 (by decide) (by decide) ?_
      have hc : g = 0 ∨ (¬ g = 0 ∧ z < s) ∨ (¬ g = 0 ∧ ¬ z < s) := by grind
      have hz : z < s ∨ ¬ z < s := by grind
      first
        | have hc := Int32.not_lt.mpr (show s ≤ z by assumption)
        | have hc := Int32.not_le.mp (show ¬ s ≤ z by assumption)
        | skip
      refine lk_ext (σ' := lk_so σ 18 (lk_ww N a (g + 1) (if g = 0 ∨ z < s then z else s) (if g = 0 ∨ z < s then m else b))) (fun o f1 i1 hin => ?_) ?_
      · by_cases ho : o = 18
        · subst ho
          obtain ⟨h5, h0⟩ := lk_inr7 rfl hin
          subst h0
          rw [lk_so_eq]
          simp only [lk_up, lk_ww, lk_nI0]
          rcases (show f1 = 0 ∨ f1 = 1 ∨ f1 = 2 ∨ f1 = 3 ∨ f1 = 4 by omega) with rfl | rfl | rfl | rfl | rfl <;> simp [hW, lk_ww, *]
        · rw [lk_so_ne ho]
          simp [lk_up, ho]
      refine lk_vret dX7_weigh_42 rfl ?_
      rw [hQ]
      exact ⟨by first | rfl | (simp [*]; done) | (simp_all; done) | grind, by first | rfl | (simp [*]; done), rfl⟩
