/-! ROWS for small numbers (nI), for conditions as answers, and what a walk wants besides -/
theorem lk_nb {P : Prop} {i : Decidable P} (_ : Unit) : narrow .boolean (.int (@ite Int32 P i 1 0)) = .int (@ite Int32 P i 1 0) := by by_cases h : P <;> simp [h] <;> rfl
theorem lk_b01 {P : Prop} {i : Decidable P} (_ : Unit) : @ite Int32 P i 1 0 = 0 ∨ @ite Int32 P i 1 0 = 1 := by by_cases h : P <;> simp [h]
theorem lk_fo1 {o : Nat} (h : lk_ko o = 0) : lk_fo o 10 = o + 1 := by
  have : o ≠ 0 := by intro e; subst e; cases h
  simp [lk_fo, this]
theorem lk_fo2 {o : Nat} (h : lk_ko o = 0) : lk_fo o 11 = o + 2 := by
  have : o ≠ 0 := by intro e; subst e; cases h
  simp [lk_fo, this]
theorem lk_kc1 {o : Nat} (h : lk_ko o = 0) : lk_ko (o + 1) = 5 := by
  have h1 : ∀ o, o < 19 → lk_ko o = 0 → lk_ko (o + 1) = 5 := by decide +kernel
  exact h1 o (lk_ko_lt h (by decide)) h
theorem lk_kc2 {o : Nat} (h : lk_ko o = 0) : lk_ko (o + 2) = 1 := by
  have h1 : ∀ o, o < 19 → lk_ko o = 0 → lk_ko (o + 2) = 1 := by decide +kernel
  exact h1 o (lk_ko_lt h (by decide)) h
theorem lk_sw0 (n : Nat) (x : Int32) : (∃ k : Nat, k ≤ n ∧ x = nI k) ∨ (x.toInt < 0 ∨ (n : Int) < x.toInt) := by
  by_cases h : x.toInt < 0 ∨ (n : Int) < x.toInt
  · exact Or.inr h
  · refine Or.inl ⟨x.toInt.toNat, by omega, ?_⟩
    apply Int32.toInt_inj.mp
    have h2 := Int32.toInt_lt x
    rw [nI_toInt (by omega)]
    omega
theorem lk_inN {a n : Nat} (h : a < n) (hn : n ≤ 1000) : vp_in (nI a) n := nI_in h (by omega)
theorem lk_nI0 : nI 0 = 0 := rfl
theorem lk_k3 {r1 : Option lk_V} {σ1 : lk_N} {τ1 : lk_T} {P : Option lk_V → lk_N → lk_T → Prop} (h : P r1 σ1 τ1) : ∀ r σ τ, (r = r1 ∧ σ = σ1 ∧ τ = τ1) → P r σ τ := by
  rintro _ _ _ ⟨rfl, rfl, rfl⟩; exact h
theorem lk_k2 {r1 : Option lk_V} {σ1 : lk_N} {τ1 : lk_T} {P : Option lk_V → lk_N → lk_T → Prop} (h : ∀ σ2, σ2 = σ1 → P r1 σ2 τ1) : ∀ r σ τ, (r = r1 ∧ σ = σ1 ∧ τ = τ1) → P r σ τ := by
  rintro _ _ _ ⟨rfl, rfl, rfl⟩; exact h _ rfl
section LKN
variable {l : Launch} {X : lk_G} {M : lk_M} {d pc : Nat} {L : List (Nat × lk_V)} {S : List lk_V} {σ : lk_N} {τ : lk_T} {Q : lk_Q}
theorem lk_top {x : Int32} (k : ∀ y : Int32, y = x → lk_W l X M d pc L (lk_vi y :: S) σ τ Q) : lk_W l X M d pc L (lk_vi x :: S) σ τ Q := k x rfl
theorem lk_eqtop {x y : Int32} (h : x = y) (k : lk_W l X M d pc L (lk_vi y :: S) σ τ Q) : lk_W l X M d pc L (lk_vi x :: S) σ τ Q := by rw [h]; exact k
theorem lk_getIv {o f ci idx : Nat} {v : Int32} (hd : decode M.2.1 pc = .ok (.getfield idx, 3)) (hc : lk_ko o = ci) (hl : lk_lk M.1.cls idx ci f ∈ lk_AW) (hci : ci < 10) (hk : (lk_fk ci f).1 = 0 ∨ (lk_fk ci f).1 = 5) (hv : σ o f 0 = v) (k : lk_W l X M d (pc + 3) L (lk_vi v :: S) σ τ Q) : lk_W l X M d pc L (lk_vr o 0 :: S) σ τ Q := lk_getI hd hc hl hci hk (by rw [hv]; exact k)
theorem lk_iaddN {a b : Nat} (hd : decode M.2.1 pc = .ok (.iadd, 1)) (k : lk_W l X M d (pc + 1) L (lk_vi (nI (a + b)) :: S) σ τ Q) : lk_W l X M d pc L (lk_vi (nI b) :: lk_vi (nI a) :: S) σ τ Q := lk_iadd hd (by rw [nI_add]; exact k)
theorem lk_nI_sub {a b : Nat} (h : b ≤ a) : nI a - nI b = nI (a - b) := by
  have e : nI a = nI (a - b) + nI b := by rw [nI_add]; congr 1; omega
  rw [e]; simp
theorem lk_isubN {a b : Nat} (hd : decode M.2.1 pc = .ok (.isub, 1)) (h : b ≤ a) (k : lk_W l X M d (pc + 1) L (lk_vi (nI (a - b)) :: S) σ τ Q) : lk_W l X M d pc L (lk_vi (nI b) :: lk_vi (nI a) :: S) σ τ Q := lk_isub hd (by rw [lk_nI_sub h]; exact k)
theorem lk_nI_mul (a b : Nat) : nI a * nI b = nI (a * b) := (Int32.ofNat_mul a b).symm
theorem lk_imulN {a b : Nat} (hd : decode M.2.1 pc = .ok (.imul, 1)) (k : lk_W l X M d (pc + 1) L (lk_vi (nI (a * b)) :: S) σ τ Q) : lk_W l X M d pc L (lk_vi (nI b) :: lk_vi (nI a) :: S) σ τ Q := lk_imul hd (by rw [lk_nI_mul]; exact k)
theorem lk_iincN {i a m : Nat} {L' : List (Nat × lk_V)} (hd : decode M.2.1 pc = .ok (.iinc i (m : Int), 3)) (hi : lk_get L i = some (lk_vi (nI a))) (_ : True = True) (hn : i < M.2.2.1) (hL : lk_st1 L i (lk_vi (nI (a + m))) = L') (k : lk_W l X M d (pc + 3) L' S σ τ Q) : lk_W l X M d pc L S σ τ Q :=
  lk_iinc hd hi (v := nI (a + m)) (by rw [← nI_add]; rfl) hn hL k
theorem lk_idecN {i a m : Nat} {L' : List (Nat × lk_V)} (hd : decode M.2.1 pc = .ok (.iinc i (-(m : Int)), 3)) (hi : lk_get L i = some (lk_vi (nI a))) (_ : True = True) (h : m ≤ a) (hn : i < M.2.2.1) (hL : lk_st1 L i (lk_vi (nI (a - m))) = L') (k : lk_W l X M d (pc + 3) L' S σ τ Q) : lk_W l X M d pc L S σ τ Q := by
  refine lk_iinc hd hi (v := nI (a - m)) ?_ hn hL k
  rw [← lk_nI_sub h, Int32.sub_eq_add_neg]
  congr 1
  show Int32.ofInt (-(m : Int)) = - Int32.ofNat m
  rw [Int32.ofInt_neg]; rfl
theorem lk_ialdN {o f ci n i : Nat} (hd : decode M.2.1 pc = .ok (.iaload, 1)) (hc : lk_ko o = ci) (hci : ci < 10) (hk : lk_fk ci f = (2, n)) (hin : i < n) (hn : n ≤ 1000) (k : lk_W l X M d (pc + 1) L (lk_vi (σ o f i) :: S) σ τ Q) : lk_W l X M d pc L (lk_vi (nI i) :: lk_vr o (f + 1) :: S) σ τ Q :=
  lk_iald hd hc hci hk (lk_inN hin hn) (by rw [nI_clamp (by omega)]; exact k)
theorem lk_zaldN {o f ci n i : Nat} (hd : decode M.2.1 pc = .ok (.baload, 1)) (hc : lk_ko o = ci) (hci : ci < 10) (hk : lk_fk ci f = (3, n)) (hin : i < n) (hn : n ≤ 1000) (k : lk_W l X M d (pc + 1) L (lk_vi (σ o f i) :: S) σ τ Q) : lk_W l X M d pc L (lk_vi (nI i) :: lk_vr o (f + 1) :: S) σ τ Q :=
  lk_zald hd hc hci hk (lk_inN hin hn) (by rw [nI_clamp (by omega)]; exact k)
theorem lk_iastN {o f ci n i : Nat} {v : Int32} (hd : decode M.2.1 pc = .ok (.iastore, 1)) (hc : lk_ko o = ci) (hci : ci < 10) (hk : lk_fk ci f = (2, n)) (hin : i < n) (hn : n ≤ 1000) (k : lk_W l X M d (pc + 1) L S (lk_up σ o f i v) τ Q) : lk_W l X M d pc L (lk_vi v :: lk_vi (nI i) :: lk_vr o (f + 1) :: S) σ τ Q :=
  lk_iast hd hc hci hk (lk_inN hin hn) (by rw [nI_clamp (by omega)]; exact k)
theorem lk_zastN {o f ci n i : Nat} {v : Int32} (hd : decode M.2.1 pc = .ok (.bastore, 1)) (hc : lk_ko o = ci) (hci : ci < 10) (hk : lk_fk ci f = (3, n)) (hin : i < n) (hn : n ≤ 1000) (hv : v = 0 ∨ v = 1) (k : lk_W l X M d (pc + 1) L S (lk_up σ o f i v) τ Q) : lk_W l X M d pc L (lk_vi v :: lk_vi (nI i) :: lk_vr o (f + 1) :: S) σ τ Q :=
  lk_zast hd hc hci hk (lk_inN hin hn) hv (by rw [nI_clamp (by omega)]; exact k)
theorem lk_tableOut {dflt lo hi : Int} {offs : Array Int} {len : Nat} {x : Int32} {tgt : Nat} (hd : decode M.2.1 pc = .ok (.tableswitch dflt lo hi offs, len)) (h : x.toInt < lo ∨ hi < x.toInt) (ht : (pc : Int) + dflt = (tgt : Int)) (k : lk_W l X M d tgt L S σ τ Q) : lk_W l X M d pc L (lk_vi x :: S) σ τ Q :=
  fun p e s m args below meth c H locs ls C hP hD hS hl => lv_tableOut C.1 C.2.1 hd h ht (k p e s m args below meth c H locs ls C hP hD hS hl)
theorem lk_tableIn {dflt lo hi : Int} {offs : Array Int} {len : Nat} {x : Int32} {off : Int} {tgt : Nat} (hd : decode M.2.1 pc = .ok (.tableswitch dflt lo hi offs, len)) (h1 : ¬ x.toInt < lo) (h2 : ¬ hi < x.toInt) (ho : offs[(x.toInt - lo).toNat]? = some off) (ht : (pc : Int) + off = (tgt : Int)) (k : lk_W l X M d tgt L S σ τ Q) : lk_W l X M d pc L (lk_vi x :: S) σ τ Q :=
  fun p e s m args below meth c H locs ls C hP hD hS hl => lv_tableIn C.1 C.2.1 hd h1 h2 ho ht (k p e s m args below meth c H locs ls C hP hD hS hl)
theorem lk_lookup {dflt : Int} {ps : Array (Int × Int)} {len : Nat} {x : Int32} {off : Int} {tgt : Nat} (hd : decode M.2.1 pc = .ok (.lookupswitch dflt ps, len)) (hp : (ps.toList.zip (ps.toList.drop 1)).all (fun (a, next) => a.1 < next.1) = true) (ho : Op.lookupswitch.offset ps.toList dflt x.toInt = off) (ht : (pc : Int) + off = (tgt : Int)) (k : lk_W l X M d tgt L S σ τ Q) : lk_W l X M d pc L (lk_vi x :: S) σ τ Q :=
  fun p e s m args below meth c H locs ls C hP hD hS hl => lv_lookup C.1 C.2.1 hd hp ho ht (k p e s m args below meth c H locs ls C hP hD hS hl)
theorem lk_if_eqB {P : Prop} {i : Decidable P} {off : Int} {tgt : Nat} (hd : decode M.2.1 pc = .ok (.ifCond .eq off, 3)) (ht : (pc : Int) + off = (tgt : Int)) (kt : ¬ P → lk_W l X M d tgt L S σ τ Q) (kf : P → lk_W l X M d (pc + 3) L S σ τ Q) : lk_W l X M d pc L (lk_vi (@ite Int32 P i 1 0) :: S) σ τ Q :=
  lk_if_eq hd ht (fun h => kt (fun z => by rw [if_pos z] at h; cases h)) (fun h => kf (by by_cases z : P; exact z; rw [if_neg z] at h; exact absurd rfl h))
theorem lk_if_neB {P : Prop} {i : Decidable P} {off : Int} {tgt : Nat} (hd : decode M.2.1 pc = .ok (.ifCond .ne off, 3)) (ht : (pc : Int) + off = (tgt : Int)) (kt : P → lk_W l X M d tgt L S σ τ Q) (kf : ¬ P → lk_W l X M d (pc + 3) L S σ τ Q) : lk_W l X M d pc L (lk_vi (@ite Int32 P i 1 0) :: S) σ τ Q :=
  lk_if_ne hd ht (fun h => kt (by by_cases z : P; exact z; rw [if_neg z] at h; exact absurd rfl h)) (fun h => kf (fun z => by rw [if_pos z] at h; cases h))
theorem lk_icmp_eqN {a b : Nat} {off : Int} {tgt : Nat} (hd : decode M.2.1 pc = .ok (.if_icmp .eq off, 3)) (ht : (pc : Int) + off = (tgt : Int)) (ha : a < 2 ^ 31) (hb : b < 2 ^ 31) (kt : a = b → lk_W l X M d tgt L S σ τ Q) (kf : ¬ a = b → lk_W l X M d (pc + 3) L S σ τ Q) : lk_W l X M d pc L (lk_vi (nI b) :: lk_vi (nI a) :: S) σ τ Q :=
  lk_icmp_eq hd ht (fun h => kt ((nI_eq ha hb).mp h)) (fun h => kf (fun z => h ((nI_eq ha hb).mpr z)))
theorem lk_if_eqN {a : Nat} {off : Int} {tgt : Nat} (hd : decode M.2.1 pc = .ok (.ifCond .eq off, 3)) (ht : (pc : Int) + off = (tgt : Int)) (ha : a < 2 ^ 31) (kt : a = 0 → lk_W l X M d tgt L S σ τ Q) (kf : ¬ a = 0 → lk_W l X M d (pc + 3) L S σ τ Q) : lk_W l X M d pc L (lk_vi (nI a) :: S) σ τ Q :=
  lk_if_eq hd ht (fun h => kt ((nI_eq ha (show 0 < 2 ^ 31 by decide)).mp h)) (fun h => kf (fun z => h ((nI_eq ha (show 0 < 2 ^ 31 by decide)).mpr z)))
theorem lk_icmp_neN {a b : Nat} {off : Int} {tgt : Nat} (hd : decode M.2.1 pc = .ok (.if_icmp .ne off, 3)) (ht : (pc : Int) + off = (tgt : Int)) (ha : a < 2 ^ 31) (hb : b < 2 ^ 31) (kt : ¬ a = b → lk_W l X M d tgt L S σ τ Q) (kf : a = b → lk_W l X M d (pc + 3) L S σ τ Q) : lk_W l X M d pc L (lk_vi (nI b) :: lk_vi (nI a) :: S) σ τ Q :=
  lk_icmp_ne hd ht (fun h => kt (fun z => h ((nI_eq ha hb).mpr z))) (fun h => kf ((nI_eq ha hb).mp h))
theorem lk_if_neN {a : Nat} {off : Int} {tgt : Nat} (hd : decode M.2.1 pc = .ok (.ifCond .ne off, 3)) (ht : (pc : Int) + off = (tgt : Int)) (ha : a < 2 ^ 31) (kt : ¬ a = 0 → lk_W l X M d tgt L S σ τ Q) (kf : a = 0 → lk_W l X M d (pc + 3) L S σ τ Q) : lk_W l X M d pc L (lk_vi (nI a) :: S) σ τ Q :=
  lk_if_ne hd ht (fun h => kt (fun z => h ((nI_eq ha (show 0 < 2 ^ 31 by decide)).mpr z))) (fun h => kf ((nI_eq ha (show 0 < 2 ^ 31 by decide)).mp h))
theorem lk_icmp_ltN {a b : Nat} {off : Int} {tgt : Nat} (hd : decode M.2.1 pc = .ok (.if_icmp .lt off, 3)) (ht : (pc : Int) + off = (tgt : Int)) (ha : a < 2 ^ 31) (hb : b < 2 ^ 31) (kt : a < b → lk_W l X M d tgt L S σ τ Q) (kf : ¬ a < b → lk_W l X M d (pc + 3) L S σ τ Q) : lk_W l X M d pc L (lk_vi (nI b) :: lk_vi (nI a) :: S) σ τ Q :=
  lk_icmp_lt hd ht (fun h => kt ((nI_ltI ha hb).mp h)) (fun h => kf (fun z => h ((nI_ltI ha hb).mpr z)))
theorem lk_if_ltN {a : Nat} {off : Int} {tgt : Nat} (hd : decode M.2.1 pc = .ok (.ifCond .lt off, 3)) (ht : (pc : Int) + off = (tgt : Int)) (ha : a < 2 ^ 31) (kt : a < 0 → lk_W l X M d tgt L S σ τ Q) (kf : ¬ a < 0 → lk_W l X M d (pc + 3) L S σ τ Q) : lk_W l X M d pc L (lk_vi (nI a) :: S) σ τ Q :=
  lk_if_lt hd ht (fun h => kt ((nI_ltI ha (show 0 < 2 ^ 31 by decide)).mp h)) (fun h => kf (fun z => h ((nI_ltI ha (show 0 < 2 ^ 31 by decide)).mpr z)))
theorem lk_icmp_geN {a b : Nat} {off : Int} {tgt : Nat} (hd : decode M.2.1 pc = .ok (.if_icmp .ge off, 3)) (ht : (pc : Int) + off = (tgt : Int)) (ha : a < 2 ^ 31) (hb : b < 2 ^ 31) (kt : b ≤ a → lk_W l X M d tgt L S σ τ Q) (kf : ¬ b ≤ a → lk_W l X M d (pc + 3) L S σ τ Q) : lk_W l X M d pc L (lk_vi (nI b) :: lk_vi (nI a) :: S) σ τ Q :=
  lk_icmp_ge hd ht (fun h => kt ((nI_leI hb ha).mp h)) (fun h => kf (fun z => h ((nI_leI hb ha).mpr z)))
theorem lk_if_geN {a : Nat} {off : Int} {tgt : Nat} (hd : decode M.2.1 pc = .ok (.ifCond .ge off, 3)) (ht : (pc : Int) + off = (tgt : Int)) (ha : a < 2 ^ 31) (kt : 0 ≤ a → lk_W l X M d tgt L S σ τ Q) (kf : ¬ 0 ≤ a → lk_W l X M d (pc + 3) L S σ τ Q) : lk_W l X M d pc L (lk_vi (nI a) :: S) σ τ Q :=
  lk_if_ge hd ht (fun h => kt ((nI_leI (show 0 < 2 ^ 31 by decide) ha).mp h)) (fun h => kf (fun z => h ((nI_leI (show 0 < 2 ^ 31 by decide) ha).mpr z)))
theorem lk_icmp_gtN {a b : Nat} {off : Int} {tgt : Nat} (hd : decode M.2.1 pc = .ok (.if_icmp .gt off, 3)) (ht : (pc : Int) + off = (tgt : Int)) (ha : a < 2 ^ 31) (hb : b < 2 ^ 31) (kt : b < a → lk_W l X M d tgt L S σ τ Q) (kf : ¬ b < a → lk_W l X M d (pc + 3) L S σ τ Q) : lk_W l X M d pc L (lk_vi (nI b) :: lk_vi (nI a) :: S) σ τ Q :=
  lk_icmp_gt hd ht (fun h => kt ((nI_ltI hb ha).mp h)) (fun h => kf (fun z => h ((nI_ltI hb ha).mpr z)))
theorem lk_if_gtN {a : Nat} {off : Int} {tgt : Nat} (hd : decode M.2.1 pc = .ok (.ifCond .gt off, 3)) (ht : (pc : Int) + off = (tgt : Int)) (ha : a < 2 ^ 31) (kt : 0 < a → lk_W l X M d tgt L S σ τ Q) (kf : ¬ 0 < a → lk_W l X M d (pc + 3) L S σ τ Q) : lk_W l X M d pc L (lk_vi (nI a) :: S) σ τ Q :=
  lk_if_gt hd ht (fun h => kt ((nI_ltI (show 0 < 2 ^ 31 by decide) ha).mp h)) (fun h => kf (fun z => h ((nI_ltI (show 0 < 2 ^ 31 by decide) ha).mpr z)))
theorem lk_icmp_leN {a b : Nat} {off : Int} {tgt : Nat} (hd : decode M.2.1 pc = .ok (.if_icmp .le off, 3)) (ht : (pc : Int) + off = (tgt : Int)) (ha : a < 2 ^ 31) (hb : b < 2 ^ 31) (kt : a ≤ b → lk_W l X M d tgt L S σ τ Q) (kf : ¬ a ≤ b → lk_W l X M d (pc + 3) L S σ τ Q) : lk_W l X M d pc L (lk_vi (nI b) :: lk_vi (nI a) :: S) σ τ Q :=
  lk_icmp_le hd ht (fun h => kt ((nI_leI ha hb).mp h)) (fun h => kf (fun z => h ((nI_leI ha hb).mpr z)))
theorem lk_if_leN {a : Nat} {off : Int} {tgt : Nat} (hd : decode M.2.1 pc = .ok (.ifCond .le off, 3)) (ht : (pc : Int) + off = (tgt : Int)) (ha : a < 2 ^ 31) (kt : a ≤ 0 → lk_W l X M d tgt L S σ τ Q) (kf : ¬ a ≤ 0 → lk_W l X M d (pc + 3) L S σ τ Q) : lk_W l X M d pc L (lk_vi (nI a) :: S) σ τ Q :=
  lk_if_le hd ht (fun h => kt ((nI_leI ha (show 0 < 2 ^ 31 by decide)).mp h)) (fun h => kf (fun z => h ((nI_leI ha (show 0 < 2 ^ 31 by decide)).mpr z)))
end LKN
