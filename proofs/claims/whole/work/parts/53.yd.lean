/-- a canal's numbers and a tally's, put into the model's -/
def lk_mw (V T : lk_O) (N : Nat → Int32) : Nat → Int32 := fun i => if i < 6 then V 2 i else if i < 12 then V 3 (i - 6) else if i < 18 then V 4 (i - 12) else if i < 24 then V 5 (i - 18) else if i < 31 then V 6 (i - 24) else if i < 38 then V 7 (i - 31) else if i < 45 then V 8 (i - 38) else if i < 52 then V 9 (i - 45) else if i = 52 then V 1 0 else if i = 53 then V 0 0 else if 115 ≤ i ∧ i < 233 then T 0 (i - 115) else N i
def lk_ms (σ : lk_N) (V T : lk_O) : lk_N := lk_sw σ 1 0 (lk_mw V T (σ 1 0))
section MS
variable {σ : lk_N} {V T : lk_O} {i k o f : Nat} {v : Int32}
theorem lk_ms_r (i : Nat) : lk_ms σ V T 1 0 i = lk_mw V T (σ 1 0) i := by simp [lk_ms, lk_sw]
theorem lk_ms_ms (V' T' : lk_O) : lk_ms (lk_ms σ V T) V' T' = lk_ms σ V' T' := by
  funext a b j
  simp only [lk_ms, lk_sw, lk_mw]
  grind (splits := 40)
theorem lk_rf (h : ¬ (o = 1 ∧ f = 0)) : lk_ms σ V T o f i = σ o f i := by simp only [lk_ms, lk_sw]; rw [if_neg h]
theorem lk_wf (h : ¬ (o = 1 ∧ f = 0)) : lk_ms (lk_up σ o f i v) V T = lk_up (lk_ms σ V T) o f i v := by
  have e : (lk_up σ o f i v) 1 0 = σ 1 0 := by funext j; simp only [lk_up]; rw [if_neg (fun z => h ⟨z.1.symm, z.2.1.symm⟩)]
  unfold lk_ms
  rw [e]
  funext a b j
  simp only [lk_sw, lk_up]
  grind
theorem lk_rB (h : 54 ≤ i ∧ i ≤ 114) : lk_ms σ V T 1 0 i = σ 1 0 i := by
  rw [lk_ms_r, lk_mw]
  rw [if_neg (by omega), if_neg (by omega), if_neg (by omega), if_neg (by omega), if_neg (by omega), if_neg (by omega), if_neg (by omega), if_neg (by omega), if_neg (by omega), if_neg (by omega), if_neg (by omega)]
theorem lk_wB (h : 54 ≤ i ∧ i ≤ 114) : lk_ms (lk_up σ 1 0 i v) V T = lk_up (lk_ms σ V T) 1 0 i v := by
  funext a b j
  simp only [lk_ms, lk_sw, lk_up, lk_mw]
  grind (splits := 40)
theorem lk_rT (h : i = 115 + k) (hk : k < 118) : lk_ms σ V T 1 0 i = T 0 k := by
  rw [lk_ms_r, lk_mw]
  rw [if_neg (by omega), if_neg (by omega), if_neg (by omega), if_neg (by omega), if_neg (by omega), if_neg (by omega), if_neg (by omega), if_neg (by omega), if_neg (by omega), if_neg (by omega), if_pos (by omega), show i - 115 = k by omega]
theorem lk_wT (h : i = 115 + k) (hk : k < 118) : lk_ms σ V (lk_ou T 0 k v) = lk_up (lk_ms σ V T) 1 0 i v := by
  funext a b j
  simp only [lk_ms, lk_sw, lk_up, lk_mw, lk_ou]
  grind (splits := 40)
theorem lk_r1 (h : i = 52) (hk : k = 0) : lk_ms σ V T 1 0 i = V 1 k := by
  subst h; subst hk; rw [lk_ms_r, lk_mw]; simp
theorem lk_r0 (h : i = 53) (hk : k = 0) : lk_ms σ V T 1 0 i = V 0 k := by
  subst h; subst hk; rw [lk_ms_r, lk_mw]; simp
theorem lk_w1 (h : i = 52) (hk : k = 0) : lk_ms σ (lk_ou V 1 k v) T = lk_up (lk_ms σ V T) 1 0 i v := by
  funext a b j
  simp only [lk_ms, lk_sw, lk_up, lk_mw, lk_ou]
  grind (splits := 40)
theorem lk_r2 (h : i = 0 + k) (hk : k < 6) : lk_ms σ V T 1 0 i = V 2 k := by
  rw [lk_ms_r, lk_mw]
  rw [if_pos (by omega)]
  congr 1; omega
theorem lk_w2 (h : i = 0 + k) (hk : k < 6) : lk_ms σ (lk_ou V 2 k v) T = lk_up (lk_ms σ V T) 1 0 i v := by
  funext a b j
  simp only [lk_ms, lk_sw, lk_up, lk_mw, lk_ou]
  grind (splits := 40)
theorem lk_r3 (h : i = 6 + k) (hk : k < 6) : lk_ms σ V T 1 0 i = V 3 k := by
  rw [lk_ms_r, lk_mw]
  rw [if_neg (by omega), if_pos (by omega)]
  congr 1; omega
theorem lk_w3 (h : i = 6 + k) (hk : k < 6) : lk_ms σ (lk_ou V 3 k v) T = lk_up (lk_ms σ V T) 1 0 i v := by
  funext a b j
  simp only [lk_ms, lk_sw, lk_up, lk_mw, lk_ou]
  grind (splits := 40)
theorem lk_r4 (h : i = 12 + k) (hk : k < 6) : lk_ms σ V T 1 0 i = V 4 k := by
  rw [lk_ms_r, lk_mw]
  rw [if_neg (by omega), if_neg (by omega), if_pos (by omega)]
  congr 1; omega
theorem lk_w4 (h : i = 12 + k) (hk : k < 6) : lk_ms σ (lk_ou V 4 k v) T = lk_up (lk_ms σ V T) 1 0 i v := by
  funext a b j
  simp only [lk_ms, lk_sw, lk_up, lk_mw, lk_ou]
  grind (splits := 40)
theorem lk_r5 (h : i = 18 + k) (hk : k < 6) : lk_ms σ V T 1 0 i = V 5 k := by
  rw [lk_ms_r, lk_mw]
  rw [if_neg (by omega), if_neg (by omega), if_neg (by omega), if_pos (by omega)]
  congr 1; omega
theorem lk_w5 (h : i = 18 + k) (hk : k < 6) : lk_ms σ (lk_ou V 5 k v) T = lk_up (lk_ms σ V T) 1 0 i v := by
  funext a b j
  simp only [lk_ms, lk_sw, lk_up, lk_mw, lk_ou]
  grind (splits := 40)
theorem lk_r6 (h : i = 24 + k) (hk : k < 7) : lk_ms σ V T 1 0 i = V 6 k := by
  rw [lk_ms_r, lk_mw]
  rw [if_neg (by omega), if_neg (by omega), if_neg (by omega), if_neg (by omega), if_pos (by omega)]
  congr 1; omega
theorem lk_w6 (h : i = 24 + k) (hk : k < 7) : lk_ms σ (lk_ou V 6 k v) T = lk_up (lk_ms σ V T) 1 0 i v := by
  funext a b j
  simp only [lk_ms, lk_sw, lk_up, lk_mw, lk_ou]
  grind (splits := 40)
theorem lk_r7 (h : i = 31 + k) (hk : k < 7) : lk_ms σ V T 1 0 i = V 7 k := by
  rw [lk_ms_r, lk_mw]
  rw [if_neg (by omega), if_neg (by omega), if_neg (by omega), if_neg (by omega), if_neg (by omega), if_pos (by omega)]
  congr 1; omega
theorem lk_w7 (h : i = 31 + k) (hk : k < 7) : lk_ms σ (lk_ou V 7 k v) T = lk_up (lk_ms σ V T) 1 0 i v := by
  funext a b j
  simp only [lk_ms, lk_sw, lk_up, lk_mw, lk_ou]
  grind (splits := 40)
theorem lk_r8 (h : i = 38 + k) (hk : k < 7) : lk_ms σ V T 1 0 i = V 8 k := by
  rw [lk_ms_r, lk_mw]
  rw [if_neg (by omega), if_neg (by omega), if_neg (by omega), if_neg (by omega), if_neg (by omega), if_neg (by omega), if_pos (by omega)]
  congr 1; omega
theorem lk_w8 (h : i = 38 + k) (hk : k < 7) : lk_ms σ (lk_ou V 8 k v) T = lk_up (lk_ms σ V T) 1 0 i v := by
  funext a b j
  simp only [lk_ms, lk_sw, lk_up, lk_mw, lk_ou]
  grind (splits := 40)
theorem lk_r9 (h : i = 45 + k) (hk : k < 7) : lk_ms σ V T 1 0 i = V 9 k := by
  rw [lk_ms_r, lk_mw]
  rw [if_neg (by omega), if_neg (by omega), if_neg (by omega), if_neg (by omega), if_neg (by omega), if_neg (by omega), if_neg (by omega), if_pos (by omega)]
  congr 1; omega
theorem lk_w9 (h : i = 45 + k) (hk : k < 7) : lk_ms σ (lk_ou V 9 k v) T = lk_up (lk_ms σ V T) 1 0 i v := by
  funext a b j
  simp only [lk_ms, lk_sw, lk_up, lk_mw, lk_ou]
  grind (splits := 40)
end MS
/-- every reach is within its least and its most -/
def lk_rok (V : lk_O) : Prop := ∀ r, r < 7 → V 7 r ≤ V 6 r ∧ V 6 r ≤ V 8 r
/-- water to the reaches above, below a lock -/
def lk_flw (V : lk_O) (k : Nat) (a b s : Int32) : lk_P :=
  if lk_chk V (k + 1) a = true then (if lk_chk V k b = true then .inl (lk_ou (lk_ou V 6 (k + 1) (V 6 (k + 1) + a)) 6 k (V 6 k + b)) else .inr (s, k, lk_side V k b))
  else .inr (s, k + 1, lk_side V (k + 1) a)
def lk_bar (σ : lk_N) (q : Int32 × Nat × Int32) : lk_N := lk_up (lk_up (lk_up σ 1 7 0 q.1) 1 8 0 (nI q.2.1)) 1 9 0 q.2.2
def lk_flR (p : lk_P) : Int32 := match p with
  | .inl _ => 1
  | .inr _ => 0
def lk_flS (σ : lk_N) (V T : lk_O) (p : lk_P) : lk_N := match p with
  | .inl V' => lk_ms σ V' T
  | .inr q => lk_ms (lk_bar σ q) V T
theorem lk_m1 {k : Nat} : nI (k + 1) + -1 = nI k := by rw [← Int32.sub_eq_add_neg]; exact nI_pred k
theorem lk_m1lt {k : Nat} (h : k < 7) : nI k + -1 < nI k := by
  apply Int32.lt_iff_toInt_lt.mpr
  rw [lk_ta (nI_toInt (by omega)) (show (-1 : Int32).toInt = -1 from rfl) (by omega) (by omega) (by decide) (by decide), nI_toInt (by omega)]
  omega
theorem lk_fil_flw {V : lk_O} {k : Nat} (hr : lk_rok V) (hk : k < 6) : lk_fil V k = lk_sb (lk_flw V k (V 4 k - V 2 k) 0 2) (fun W => .inl (lk_ou (lk_ou W 4 k 0) 5 k 1)) := by
  have e : 0 - (V 2 k - V 4 k) = V 4 k - V 2 k := by grind
  have e2 : V 6 (k + 1) - (V 2 k - V 4 k) = V 6 (k + 1) + (V 4 k - V 2 k) := by grind
  have hc : lk_chk V k 0 = true := by have := hr k (by omega); simp [lk_chk, this]
  unfold lk_fil lk_flw
  rw [e, e2, hc]
  split
  · simp only [if_true, lk_sb]
    congr 1
    funext f i
    simp only [lk_ou]
    grind
  · rfl
theorem lk_emp_flw {V : lk_O} {k : Nat} (hr : lk_rok V) (hk : k < 6) : lk_emp V k = lk_sb (lk_flw V k 0 (V 2 k - lk_shr V k) 1) (fun W => .inl (lk_ou (lk_ou W 4 k (lk_shr V k)) 5 k 0)) := by
  have hc : lk_chk V (k + 1) 0 = true := by have := hr (k + 1) (by omega); simp [lk_chk, this]
  unfold lk_emp lk_flw
  rw [hc]
  simp only [if_true]
  split
  · simp only [lk_sb]
    congr 1
    funext f i
    simp only [lk_ou]
    grind
  · rfl
theorem lk_swp_flw (V : lk_O) (k : Nat) (z : Int32) : lk_swp V k z = lk_flw V k (0 - z) z 3 := by
  unfold lk_swp lk_flw
  rw [show V 6 (k + 1) - z = V 6 (k + 1) + (0 - z) by grind]
theorem lk_flw_n {V V1 : lk_O} {k : Nat} {a b s : Int32} (h : lk_flw V k a b s = .inl V1) : lk_near V V1 k ∧ V1 4 k = V 4 k ∧ V1 5 k = V 5 k := by
  unfold lk_flw at h
  split at h
  · split at h
    · cases h
      refine ⟨fun f i x y z => ?_, ?_, ?_⟩
      · rw [lk_ou_ne (fun q => x ⟨q.1, Or.inl q.2⟩), lk_ou_ne (fun q => x ⟨q.1, Or.inr q.2⟩)]
      · simp [lk_ou]
      · simp [lk_ou]
    · cases h
  · cases h
theorem lk_flw_3 {V V1 : lk_O} {k : Nat} {a b s : Int32} (h : lk_flw V k a b s = .inl V1) : V1 3 k = V 3 k := lk_near_3 (lk_flw_n h).1 k
theorem lk_flw_s {V V1 : lk_O} {k : Nat} {a b s : Int32} (h : lk_flw V k a b s = .inl V1) : lk_shr V1 k = lk_shr V k := by
  unfold lk_shr
  rw [lk_flw_3 h, (lk_flw_n h).1 2 k (by simp) (by simp) (by simp)]
theorem lk_ck {V : lk_O} {r : Nat} {g : Int32} (h : lk_chk V r g = true) : V 7 r ≤ V 6 r + g ∧ V 6 r + g ≤ V 8 r := by simpa [lk_chk] using h
/-- what is within, stays within -/
theorem lk_flw_rok {V V1 : lk_O} {k : Nat} {a b s : Int32} (hr : lk_rok V) (h : lk_flw V k a b s = .inl V1) : lk_rok V1 := by
  unfold lk_flw at h
  split at h
  · split at h
    · cases h
      rename_i h1 h2
      have h1 := lk_ck h1
      have h2 := lk_ck h2
      intro r h7
      have := hr r h7
      simp only [lk_ou]
      grind
    · cases h
  · cases h
theorem lk_rok_ou {V : lk_O} {f i : Nat} {v : Int32} (hr : lk_rok V) (hf : f < 6) : lk_rok (lk_ou V f i v) := by
  intro r h7
  have := hr r h7
  simp only [lk_ou]
  rw [if_neg (by omega), if_neg (by omega), if_neg (by omega)]
  exact this
theorem lk_sb_inl {p : lk_P} {f : lk_O → lk_P} {V : lk_O} (h : lk_sb p f = .inl V) : ∃ W, p = .inl W ∧ f W = .inl V := by
  rcases p with W | q
  · exact ⟨W, rfl, h⟩
  · cases h
theorem lk_fil_rok {V V1 : lk_O} {k : Nat} (hr : lk_rok V) (hk : k < 6) (h : lk_fil V k = .inl V1) : lk_rok V1 := by
  rw [lk_fil_flw hr hk] at h
  rcases hf : lk_flw V k (V 4 k - V 2 k) 0 2 with W | q <;> rw [hf] at h
  · have h2 := lk_flw_rok hr hf
    cases h
    exact lk_rok_ou (lk_rok_ou h2 (by decide)) (by decide)
  · cases h
theorem lk_emp_rok {V V1 : lk_O} {k : Nat} (hr : lk_rok V) (hk : k < 6) (h : lk_emp V k = .inl V1) : lk_rok V1 := by
  rw [lk_emp_flw hr hk] at h
  rcases hf : lk_flw V k 0 (V 2 k - lk_shr V k) 1 with W | q <;> rw [hf] at h
  · have h2 := lk_flw_rok hr hf
    cases h
    exact lk_rok_ou (lk_rok_ou h2 (by decide)) (by decide)
  · cases h
theorem lk_swp_rok {V V1 : lk_O} {k : Nat} {z : Int32} (hr : lk_rok V) (h : lk_swp V k z = .inl V1) : lk_rok V1 := lk_flw_rok hr (by rw [← lk_swp_flw]; exact h)
theorem lk_pas_rok {V V1 : lk_O} {k : Nat} {up : Bool} {z : Int32} (hr : lk_rok V) (hk : k < 6) (h : lk_pas V k up z = .inl V1) : lk_rok V1 := by
  cases up with
  | true =>
    obtain ⟨W, hw, h⟩ := lk_sb_inl (show lk_sb (lk_sb (if V 5 k = 0 then .inl V else lk_emp V k) (fun V => lk_fil V k)) (fun V => lk_swp V k z) = .inl V1 from h)
    obtain ⟨U, hu, hw⟩ := lk_sb_inl hw
    have : lk_rok U := by
      split at hu
      · cases hu; exact hr
      · exact lk_emp_rok hr hk hu
    exact lk_swp_rok (lk_fil_rok this hk hw) h
  | false =>
    obtain ⟨W, hw, h⟩ := lk_sb_inl (show lk_sb (lk_sb (if V 5 k = 0 then lk_fil V k else .inl V) (fun V => lk_emp V k)) (fun V => lk_swp V k (0 - z)) = .inl V1 from h)
    obtain ⟨U, hu, hw⟩ := lk_sb_inl hw
    have : lk_rok U := by
      split at hu
      · exact lk_fil_rok hr hk hu
      · cases hu; exact hr
    exact lk_swp_rok (lk_emp_rok this hk hw) h
theorem lk_chk_t {V : lk_O} {r : Nat} {g : Int32} (h : ¬ V 6 r + g < V 7 r) (h2 : ¬ V 8 r < V 6 r + g) : lk_chk V r g = true := by simp [lk_chk, Int32.not_lt.mp h, Int32.not_lt.mp h2]
theorem lk_chk_f1 {V : lk_O} {r : Nat} {g : Int32} (h : V 6 r + g < V 7 r) : lk_chk V r g = false := by
  simp [lk_chk, Int32.not_le.mpr h]
theorem lk_chk_f2 {V : lk_O} {r : Nat} {g : Int32} (h : V 8 r < V 6 r + g) : lk_chk V r g = false := by simp [lk_chk, Int32.not_le.mpr h]
set_option maxHeartbeats 1000000 in
set_option maxRecDepth 100000 in
theorem tX9_flows (l : Launch) (X : lk_G) (d : Nat) (σ : lk_N) (τ : lk_T) (V T : lk_O) (k : Nat) (a b s : Int32) (hk : k < 6) : lk_Mt l X mX9_flows d [lk_vr 1 0, lk_vi (nI (k)), lk_vi (a), lk_vi (b), lk_vi (s)] (lk_ms σ V T) τ (fun rr σ1 τ1 => rr = some (lk_vi (lk_flR (lk_flw V k a b s))) ∧ σ1 = lk_flS σ V T (lk_flw V k a b s) ∧ τ1 = τ) := by
  refine lk_met (L := [(0, lk_vr 1 0), (1, lk_vi (nI (k))), (2, lk_vi (a)), (3, lk_vi (b)), (4, lk_vi (s))]) (by decide +kernel) (Nat.le_of_ble_eq_true rfl) rfl ?_
  obtain ⟨Q, hQ⟩ : ∃ Q : lk_Q, Q = fun rr σ1 τ1 => rr = some (lk_vi (lk_flR (lk_flw V k a b s))) ∧ σ1 = lk_flS σ V T (lk_flw V k a b s) ∧ τ1 = τ := ⟨_, rfl⟩
  rw [← hQ]
  refine lk_iload_n dX9_flows_0 rfl rfl ?_
  refine lk_iconst (v := 1) dX9_flows_1 (by decide) ?_
  refine lk_iaddN (a := k) (b := 1) dX9_flows_2 ?_
  refine lk_istore (L' := [(0, lk_vr 1 0), (1, lk_vi (nI (k))), (2, lk_vi (a)), (3, lk_vi (b)), (4, lk_vi (s)), (5, lk_vi (nI (k + 1)))]) dX9_flows_3 (by decide +kernel) rfl ?_
  refine lk_iload dX9_flows_5 rfl ?_
  refine lk_iload_n dX9_flows_7 rfl rfl ?_
  refine lk_icmp_ltN (a := k + 1) (b := k) (tgt := 112) dX9_flows_8 (by decide) (by omega) (by omega) (fun hh1 => absurd hh1 (by omega)) (fun hh1 => ?_)
  refine lk_aload_n dX9_flows_11 rfl rfl ?_
  refine lk_getR (f := 0) dX9_flows_12 rfl fX9_9 (by decide) (by decide) ?_
  refine lk_bipush (v := 24) dX9_flows_15 (by decide) ?_
  refine lk_iload dX9_flows_17 rfl ?_
  refine lk_iaddN (a := 24) (b := k + 1) dX9_flows_19 ?_
  refine lk_ialdN (f := 0) (i := 24 + k + 1) dX9_flows_20 rfl (by decide) rfl (by omega) (by decide) ?_
  refine lk_eqtop (y := (V 6 (k + 1))) (lk_r6 (by omega) (by omega)) ?_
  refine lk_iload dX9_flows_21 rfl ?_
  refine lk_iload_n dX9_flows_23 rfl rfl ?_
  refine lk_icmp_neN (a := k + 1) (b := k) (tgt := 31) dX9_flows_24 (by decide) (by omega) (by omega) (fun hh2 => ?_) (fun hh2 => absurd hh2 (by omega))
  refine lk_iload_n dX9_flows_31 rfl rfl ?_
  refine lk_iadd dX9_flows_32 ?_
  refine lk_istore (L' := [(0, lk_vr 1 0), (1, lk_vi (nI (k))), (2, lk_vi (a)), (3, lk_vi (b)), (4, lk_vi (s)), (5, lk_vi (nI (k + 1))), (6, lk_vi ((V 6 (k + 1)) + (a)))]) dX9_flows_33 (by decide +kernel) rfl ?_
  refine lk_iload dX9_flows_35 rfl ?_
  refine lk_aload_n dX9_flows_37 rfl rfl ?_
  refine lk_getR (f := 0) dX9_flows_38 rfl fX9_9 (by decide) (by decide) ?_
  refine lk_bipush (v := 31) dX9_flows_41 (by decide) ?_
  refine lk_iload dX9_flows_43 rfl ?_
  refine lk_iaddN (a := 31) (b := k + 1) dX9_flows_45 ?_
  refine lk_ialdN (f := 0) (i := 31 + k + 1) dX9_flows_46 rfl (by decide) rfl (by omega) (by decide) ?_
  refine lk_eqtop (y := (V 7 (k + 1))) (lk_r7 (by omega) (by omega)) ?_
  refine lk_icmp_lt (tgt := 68) dX9_flows_47 (by decide) (fun hh3 => ?_) (fun hh3 => ?_)
  ·
    refine lk_aload_n dX9_flows_68 rfl rfl ?_
    refine lk_iload dX9_flows_69 rfl ?_
    refine lk_putI (f := 7) dX9_flows_71 rfl fX9_118 (by decide) (by decide) ?_
    refine lk_sg (σ' := (lk_ms (lk_up σ 1 7 0 (s)) V T)) (lk_wf (by decide)) ?_
    refine lk_aload_n dX9_flows_74 rfl rfl ?_
    refine lk_iload dX9_flows_75 rfl ?_
    refine lk_putI (f := 8) dX9_flows_77 rfl fX9_121 (by decide) (by decide) ?_
    refine lk_sg (σ' := (lk_ms (lk_up (lk_up σ 1 7 0 (s)) 1 8 0 (nI (k + 1))) V T)) (lk_wf (by decide)) ?_
    refine lk_aload_n dX9_flows_80 rfl rfl ?_
    refine lk_iload dX9_flows_81 rfl ?_
    refine lk_aload_n dX9_flows_83 rfl rfl ?_
    refine lk_getR (f := 0) dX9_flows_84 rfl fX9_9 (by decide) (by decide) ?_
    refine lk_bipush (v := 31) dX9_flows_87 (by decide) ?_
    refine lk_iload dX9_flows_89 rfl ?_
    refine lk_iaddN (a := 31) (b := k + 1) dX9_flows_91 ?_
    refine lk_ialdN (f := 0) (i := 31 + k + 1) dX9_flows_92 rfl (by decide) rfl (by omega) (by decide) ?_
    refine lk_eqtop (y := (V 7 (k + 1))) (lk_r7 (by omega) (by omega)) ?_
    refine lk_icmp_ge (tgt := 100) dX9_flows_93 (by decide) (fun hh4 => ?_) (fun hh4 => ?_)
    ·
      refine lk_iconst (v := 2) dX9_flows_100 (by decide) ?_
      refine lk_putI (f := 9) dX9_flows_101 rfl fX9_124 (by decide) (by decide) ?_
      refine lk_sg (σ' := (lk_ms (lk_up (lk_up (lk_up σ 1 7 0 (s)) 1 8 0 (nI (k + 1))) 1 9 0 2) V T)) (lk_wf (by decide)) ?_
      refine lk_iconst (v := 0) dX9_flows_104 (by decide) ?_
      refine lk_iret .boolean dX9_flows_105 rfl rfl ?_
      rw [hQ]
      first | exact absurd (show V 6 (k + 1) + a < V 7 (k + 1) by assumption) (Int32.not_lt.mpr (show V 7 (k + 1) ≤ V 6 (k + 1) + a by assumption)) | (rw [show lk_flw V k a b s = .inr (s, k + 1, 2) by (unfold lk_flw lk_side; rw [lk_chk_f2 (r := k + 1) (by assumption), if_neg Bool.false_ne_true, if_neg (by assumption)])]; exact ⟨rfl, rfl, rfl⟩)
    ·
      refine lk_iconst (v := 1) dX9_flows_96 (by decide) ?_
      refine lk_goto (tgt := 101) dX9_flows_97 (by decide) ?_
      refine lk_putI (f := 9) dX9_flows_101 rfl fX9_124 (by decide) (by decide) ?_
      refine lk_sg (σ' := (lk_ms (lk_up (lk_up (lk_up σ 1 7 0 (s)) 1 8 0 (nI (k + 1))) 1 9 0 1) V T)) (lk_wf (by decide)) ?_
      refine lk_iconst (v := 0) dX9_flows_104 (by decide) ?_
      refine lk_iret .boolean dX9_flows_105 rfl rfl ?_
      rw [hQ]
      first | exact absurd (show V 6 (k + 1) + a < V 7 (k + 1) from Int32.not_le.mp (by assumption)) (by assumption) | (rw [show lk_flw V k a b s = .inr (s, k + 1, 1) by (unfold lk_flw lk_side; rw [lk_chk_f1 (r := k + 1) (by assumption), if_neg Bool.false_ne_true, if_pos (by assumption)])]; exact ⟨rfl, rfl, rfl⟩)
  ·
    refine lk_iload dX9_flows_50 rfl ?_
    refine lk_aload_n dX9_flows_52 rfl rfl ?_
    refine lk_getR (f := 0) dX9_flows_53 rfl fX9_9 (by decide) (by decide) ?_
    refine lk_bipush (v := 38) dX9_flows_56 (by decide) ?_
    refine lk_iload dX9_flows_58 rfl ?_
    refine lk_iaddN (a := 38) (b := k + 1) dX9_flows_60 ?_
    refine lk_ialdN (f := 0) (i := 38 + k + 1) dX9_flows_61 rfl (by decide) rfl (by omega) (by decide) ?_
    refine lk_eqtop (y := (V 8 (k + 1))) (lk_r8 (by omega) (by omega)) ?_
    refine lk_icmp_gt (tgt := 68) dX9_flows_62 (by decide) (fun hh5 => ?_) (fun hh5 => ?_)
    ·
      refine lk_aload_n dX9_flows_68 rfl rfl ?_
      refine lk_iload dX9_flows_69 rfl ?_
      refine lk_putI (f := 7) dX9_flows_71 rfl fX9_118 (by decide) (by decide) ?_
      refine lk_sg (σ' := (lk_ms (lk_up σ 1 7 0 (s)) V T)) (lk_wf (by decide)) ?_
      refine lk_aload_n dX9_flows_74 rfl rfl ?_
      refine lk_iload dX9_flows_75 rfl ?_
      refine lk_putI (f := 8) dX9_flows_77 rfl fX9_121 (by decide) (by decide) ?_
      refine lk_sg (σ' := (lk_ms (lk_up (lk_up σ 1 7 0 (s)) 1 8 0 (nI (k + 1))) V T)) (lk_wf (by decide)) ?_
      refine lk_aload_n dX9_flows_80 rfl rfl ?_
      refine lk_iload dX9_flows_81 rfl ?_
      refine lk_aload_n dX9_flows_83 rfl rfl ?_
      refine lk_getR (f := 0) dX9_flows_84 rfl fX9_9 (by decide) (by decide) ?_
      refine lk_bipush (v := 31) dX9_flows_87 (by decide) ?_
      refine lk_iload dX9_flows_89 rfl ?_
      refine lk_iaddN (a := 31) (b := k + 1) dX9_flows_91 ?_
      refine lk_ialdN (f := 0) (i := 31 + k + 1) dX9_flows_92 rfl (by decide) rfl (by omega) (by decide) ?_
      refine lk_eqtop (y := (V 7 (k + 1))) (lk_r7 (by omega) (by omega)) ?_
      refine lk_icmp_ge (tgt := 100) dX9_flows_93 (by decide) (fun hh6 => ?_) (fun hh6 => ?_)
      ·
        refine lk_iconst (v := 2) dX9_flows_100 (by decide) ?_
        refine lk_putI (f := 9) dX9_flows_101 rfl fX9_124 (by decide) (by decide) ?_
        refine lk_sg (σ' := (lk_ms (lk_up (lk_up (lk_up σ 1 7 0 (s)) 1 8 0 (nI (k + 1))) 1 9 0 2) V T)) (lk_wf (by decide)) ?_
        refine lk_iconst (v := 0) dX9_flows_104 (by decide) ?_
        refine lk_iret .boolean dX9_flows_105 rfl rfl ?_
        rw [hQ]
        first | exact absurd (show V 6 (k + 1) + a < V 7 (k + 1) by assumption) (Int32.not_lt.mpr (show V 7 (k + 1) ≤ V 6 (k + 1) + a by assumption)) | (rw [show lk_flw V k a b s = .inr (s, k + 1, 2) by (unfold lk_flw lk_side; rw [lk_chk_f2 (r := k + 1) (by assumption), if_neg Bool.false_ne_true, if_neg (by assumption)])]; exact ⟨rfl, rfl, rfl⟩)
      ·
        refine lk_iconst (v := 1) dX9_flows_96 (by decide) ?_
        refine lk_goto (tgt := 101) dX9_flows_97 (by decide) ?_
        refine lk_putI (f := 9) dX9_flows_101 rfl fX9_124 (by decide) (by decide) ?_
        refine lk_sg (σ' := (lk_ms (lk_up (lk_up (lk_up σ 1 7 0 (s)) 1 8 0 (nI (k + 1))) 1 9 0 1) V T)) (lk_wf (by decide)) ?_
        refine lk_iconst (v := 0) dX9_flows_104 (by decide) ?_
        refine lk_iret .boolean dX9_flows_105 rfl rfl ?_
        rw [hQ]
        first | exact absurd (show V 6 (k + 1) + a < V 7 (k + 1) from Int32.not_le.mp (by assumption)) (by assumption) | (rw [show lk_flw V k a b s = .inr (s, k + 1, 1) by (unfold lk_flw lk_side; rw [lk_chk_f1 (r := k + 1) (by assumption), if_neg Bool.false_ne_true, if_pos (by assumption)])]; exact ⟨rfl, rfl, rfl⟩)
    ·
      refine lk_goto (tgt := 106) dX9_flows_65 (by decide) ?_
      refine lk_iinc (v := (nI (k + 1)) + (-1)) (L' := [(0, lk_vr 1 0), (1, lk_vi (nI (k))), (2, lk_vi (a)), (3, lk_vi (b)), (4, lk_vi (s)), (5, lk_vi ((nI (k + 1)) + (-1))), (6, lk_vi ((V 6 (k + 1)) + (a)))]) dX9_flows_106 rfl rfl (by decide +kernel) rfl ?_
      rw [show nI (k + 1) + (-1) = nI k from lk_m1]
      refine lk_goto (tgt := 5) dX9_flows_109 (by decide) ?_
      refine lk_iload dX9_flows_5 rfl ?_
      refine lk_iload_n dX9_flows_7 rfl rfl ?_
      refine lk_icmp_ltN (a := k) (b := k) (tgt := 112) dX9_flows_8 (by decide) (by omega) (by omega) (fun hh7 => absurd hh7 (by omega)) (fun hh7 => ?_)
      refine lk_aload_n dX9_flows_11 rfl rfl ?_
      refine lk_getR (f := 0) dX9_flows_12 rfl fX9_9 (by decide) (by decide) ?_
      refine lk_bipush (v := 24) dX9_flows_15 (by decide) ?_
      refine lk_iload dX9_flows_17 rfl ?_
      refine lk_iaddN (a := 24) (b := k) dX9_flows_19 ?_
      refine lk_ialdN (f := 0) (i := 24 + k) dX9_flows_20 rfl (by decide) rfl (by omega) (by decide) ?_
      refine lk_eqtop (y := (V 6 (k))) (lk_r6 (by omega) (by omega)) ?_
      refine lk_iload dX9_flows_21 rfl ?_
      refine lk_iload_n dX9_flows_23 rfl rfl ?_
      refine lk_icmp_neN (a := k) (b := k) (tgt := 31) dX9_flows_24 (by decide) (by omega) (by omega) (fun hh8 => absurd hh8 (fun q => q rfl)) (fun hh8 => ?_)
      refine lk_iload_n dX9_flows_27 rfl rfl ?_
      refine lk_goto (tgt := 32) dX9_flows_28 (by decide) ?_
      refine lk_iadd dX9_flows_32 ?_
      refine lk_istore (L' := [(0, lk_vr 1 0), (1, lk_vi (nI (k))), (2, lk_vi (a)), (3, lk_vi (b)), (4, lk_vi (s)), (5, lk_vi (nI (k))), (6, lk_vi ((V 6 (k)) + (b)))]) dX9_flows_33 (by decide +kernel) rfl ?_
      refine lk_iload dX9_flows_35 rfl ?_
      refine lk_aload_n dX9_flows_37 rfl rfl ?_
      refine lk_getR (f := 0) dX9_flows_38 rfl fX9_9 (by decide) (by decide) ?_
      refine lk_bipush (v := 31) dX9_flows_41 (by decide) ?_
      refine lk_iload dX9_flows_43 rfl ?_
      refine lk_iaddN (a := 31) (b := k) dX9_flows_45 ?_
      refine lk_ialdN (f := 0) (i := 31 + k) dX9_flows_46 rfl (by decide) rfl (by omega) (by decide) ?_
      refine lk_eqtop (y := (V 7 (k))) (lk_r7 (by omega) (by omega)) ?_
      refine lk_icmp_lt (tgt := 68) dX9_flows_47 (by decide) (fun hh9 => ?_) (fun hh9 => ?_)
      ·
        refine lk_aload_n dX9_flows_68 rfl rfl ?_
        refine lk_iload dX9_flows_69 rfl ?_
        refine lk_putI (f := 7) dX9_flows_71 rfl fX9_118 (by decide) (by decide) ?_
        refine lk_sg (σ' := (lk_ms (lk_up σ 1 7 0 (s)) V T)) (lk_wf (by decide)) ?_
        refine lk_aload_n dX9_flows_74 rfl rfl ?_
        refine lk_iload dX9_flows_75 rfl ?_
        refine lk_putI (f := 8) dX9_flows_77 rfl fX9_121 (by decide) (by decide) ?_
        refine lk_sg (σ' := (lk_ms (lk_up (lk_up σ 1 7 0 (s)) 1 8 0 (nI (k))) V T)) (lk_wf (by decide)) ?_
        refine lk_aload_n dX9_flows_80 rfl rfl ?_
        refine lk_iload dX9_flows_81 rfl ?_
        refine lk_aload_n dX9_flows_83 rfl rfl ?_
        refine lk_getR (f := 0) dX9_flows_84 rfl fX9_9 (by decide) (by decide) ?_
        refine lk_bipush (v := 31) dX9_flows_87 (by decide) ?_
        refine lk_iload dX9_flows_89 rfl ?_
        refine lk_iaddN (a := 31) (b := k) dX9_flows_91 ?_
        refine lk_ialdN (f := 0) (i := 31 + k) dX9_flows_92 rfl (by decide) rfl (by omega) (by decide) ?_
        refine lk_eqtop (y := (V 7 (k))) (lk_r7 (by omega) (by omega)) ?_
        refine lk_icmp_ge (tgt := 100) dX9_flows_93 (by decide) (fun hh10 => ?_) (fun hh10 => ?_)
        ·
          refine lk_iconst (v := 2) dX9_flows_100 (by decide) ?_
          refine lk_putI (f := 9) dX9_flows_101 rfl fX9_124 (by decide) (by decide) ?_
          refine lk_sg (σ' := (lk_ms (lk_up (lk_up (lk_up σ 1 7 0 (s)) 1 8 0 (nI (k))) 1 9 0 2) V T)) (lk_wf (by decide)) ?_
          refine lk_iconst (v := 0) dX9_flows_104 (by decide) ?_
          refine lk_iret .boolean dX9_flows_105 rfl rfl ?_
          rw [hQ]
          first | exact absurd (show V 6 (k) + b < V 7 (k) by assumption) (Int32.not_lt.mpr (show V 7 (k) ≤ V 6 (k) + b by assumption)) | (rw [show lk_flw V k a b s = .inr (s, k, 2) by (unfold lk_flw lk_side; rw [lk_chk_t (r := k + 1) (by assumption) (by assumption), if_pos rfl]; rw [lk_chk_f2 (r := k) (by assumption), if_neg Bool.false_ne_true, if_neg (by assumption)])]; exact ⟨rfl, rfl, rfl⟩)
        ·
          refine lk_iconst (v := 1) dX9_flows_96 (by decide) ?_
          refine lk_goto (tgt := 101) dX9_flows_97 (by decide) ?_
          refine lk_putI (f := 9) dX9_flows_101 rfl fX9_124 (by decide) (by decide) ?_
          refine lk_sg (σ' := (lk_ms (lk_up (lk_up (lk_up σ 1 7 0 (s)) 1 8 0 (nI (k))) 1 9 0 1) V T)) (lk_wf (by decide)) ?_
          refine lk_iconst (v := 0) dX9_flows_104 (by decide) ?_
          refine lk_iret .boolean dX9_flows_105 rfl rfl ?_
          rw [hQ]
          first | exact absurd (show V 6 (k) + b < V 7 (k) from Int32.not_le.mp (by assumption)) (by assumption) | (rw [show lk_flw V k a b s = .inr (s, k, 1) by (unfold lk_flw lk_side; rw [lk_chk_t (r := k + 1) (by assumption) (by assumption), if_pos rfl]; rw [lk_chk_f1 (r := k) (by assumption), if_neg Bool.false_ne_true, if_pos (by assumption)])]; exact ⟨rfl, rfl, rfl⟩)
      ·
        refine lk_iload dX9_flows_50 rfl ?_
        refine lk_aload_n dX9_flows_52 rfl rfl ?_
        refine lk_getR (f := 0) dX9_flows_53 rfl fX9_9 (by decide) (by decide) ?_
        refine lk_bipush (v := 38) dX9_flows_56 (by decide) ?_
        refine lk_iload dX9_flows_58 rfl ?_
        refine lk_iaddN (a := 38) (b := k) dX9_flows_60 ?_
        refine lk_ialdN (f := 0) (i := 38 + k) dX9_flows_61 rfl (by decide) rfl (by omega) (by decide) ?_
        refine lk_eqtop (y := (V 8 (k))) (lk_r8 (by omega) (by omega)) ?_
        refine lk_icmp_gt (tgt := 68) dX9_flows_62 (by decide) (fun hh11 => ?_) (fun hh11 => ?_)
        ·
          refine lk_aload_n dX9_flows_68 rfl rfl ?_
          refine lk_iload dX9_flows_69 rfl ?_
          refine lk_putI (f := 7) dX9_flows_71 rfl fX9_118 (by decide) (by decide) ?_
          refine lk_sg (σ' := (lk_ms (lk_up σ 1 7 0 (s)) V T)) (lk_wf (by decide)) ?_
          refine lk_aload_n dX9_flows_74 rfl rfl ?_
          refine lk_iload dX9_flows_75 rfl ?_
          refine lk_putI (f := 8) dX9_flows_77 rfl fX9_121 (by decide) (by decide) ?_
          refine lk_sg (σ' := (lk_ms (lk_up (lk_up σ 1 7 0 (s)) 1 8 0 (nI (k))) V T)) (lk_wf (by decide)) ?_
          refine lk_aload_n dX9_flows_80 rfl rfl ?_
          refine lk_iload dX9_flows_81 rfl ?_
          refine lk_aload_n dX9_flows_83 rfl rfl ?_
          refine lk_getR (f := 0) dX9_flows_84 rfl fX9_9 (by decide) (by decide) ?_
          refine lk_bipush (v := 31) dX9_flows_87 (by decide) ?_
          refine lk_iload dX9_flows_89 rfl ?_
          refine lk_iaddN (a := 31) (b := k) dX9_flows_91 ?_
          refine lk_ialdN (f := 0) (i := 31 + k) dX9_flows_92 rfl (by decide) rfl (by omega) (by decide) ?_
          refine lk_eqtop (y := (V 7 (k))) (lk_r7 (by omega) (by omega)) ?_
          refine lk_icmp_ge (tgt := 100) dX9_flows_93 (by decide) (fun hh12 => ?_) (fun hh12 => ?_)
          ·
            refine lk_iconst (v := 2) dX9_flows_100 (by decide) ?_
            refine lk_putI (f := 9) dX9_flows_101 rfl fX9_124 (by decide) (by decide) ?_
            refine lk_sg (σ' := (lk_ms (lk_up (lk_up (lk_up σ 1 7 0 (s)) 1 8 0 (nI (k))) 1 9 0 2) V T)) (lk_wf (by decide)) ?_
            refine lk_iconst (v := 0) dX9_flows_104 (by decide) ?_
            refine lk_iret .boolean dX9_flows_105 rfl rfl ?_
            rw [hQ]
            first | exact absurd (show V 6 (k) + b < V 7 (k) by assumption) (Int32.not_lt.mpr (show V 7 (k) ≤ V 6 (k) + b by assumption)) | (rw [show lk_flw V k a b s = .inr (s, k, 2) by (unfold lk_flw lk_side; rw [lk_chk_t (r := k + 1) (by assumption) (by assumption), if_pos rfl]; rw [lk_chk_f2 (r := k) (by assumption), if_neg Bool.false_ne_true, if_neg (by assumption)])]; exact ⟨rfl, rfl, rfl⟩)
          ·
            refine lk_iconst (v := 1) dX9_flows_96 (by decide) ?_
            refine lk_goto (tgt := 101) dX9_flows_97 (by decide) ?_
            refine lk_putI (f := 9) dX9_flows_101 rfl fX9_124 (by decide) (by decide) ?_
            refine lk_sg (σ' := (lk_ms (lk_up (lk_up (lk_up σ 1 7 0 (s)) 1 8 0 (nI (k))) 1 9 0 1) V T)) (lk_wf (by decide)) ?_
            refine lk_iconst (v := 0) dX9_flows_104 (by decide) ?_
            refine lk_iret .boolean dX9_flows_105 rfl rfl ?_
            rw [hQ]
            first | exact absurd (show V 6 (k) + b < V 7 (k) from Int32.not_le.mp (by assumption)) (by assumption) | (rw [show lk_flw V k a b s = .inr (s, k, 1) by (unfold lk_flw lk_side; rw [lk_chk_t (r := k + 1) (by assumption) (by assumption), if_pos rfl]; rw [lk_chk_f1 (r := k) (by assumption), if_neg Bool.false_ne_true, if_pos (by assumption)])]; exact ⟨rfl, rfl, rfl⟩)
        ·
          refine lk_goto (tgt := 106) dX9_flows_65 (by decide) ?_
          refine lk_iinc (v := (nI (k)) + (-1)) (L' := [(0, lk_vr 1 0), (1, lk_vi (nI (k))), (2, lk_vi (a)), (3, lk_vi (b)), (4, lk_vi (s)), (5, lk_vi ((nI (k)) + (-1))), (6, lk_vi ((V 6 (k)) + (b)))]) dX9_flows_106 rfl rfl (by decide +kernel) rfl ?_
          refine lk_goto (tgt := 5) dX9_flows_109 (by decide) ?_
          refine lk_iload dX9_flows_5 rfl ?_
          refine lk_iload_n dX9_flows_7 rfl rfl ?_
          refine lk_icmp_lt (tgt := 112) dX9_flows_8 (by decide) (fun hh13 => ?_) (fun hh13 => absurd hh13 (fun q => q (lk_m1lt (by omega))))
          refine lk_aload_n dX9_flows_112 rfl rfl ?_
          refine lk_getR (f := 0) dX9_flows_113 rfl fX9_9 (by decide) (by decide) ?_
          refine lk_bipush (v := 24) dX9_flows_116 (by decide) ?_
          refine lk_iload_n dX9_flows_118 rfl rfl ?_
          refine lk_iaddN (a := 24) (b := k) dX9_flows_119 ?_
          refine lk_iconst (v := 1) dX9_flows_120 (by decide) ?_
          refine lk_iaddN (a := 24 + k) (b := 1) dX9_flows_121 ?_
          refine lk_dup2 dX9_flows_122 rfl rfl ?_
          refine lk_ialdN (f := 0) (i := 24 + k + 1) dX9_flows_123 rfl (by decide) rfl (by omega) (by decide) ?_
          refine lk_eqtop (y := (V 6 (k + 1))) (lk_r6 (by omega) (by omega)) ?_
          refine lk_iload_n dX9_flows_124 rfl rfl ?_
          refine lk_iadd dX9_flows_125 ?_
          refine lk_iastN (f := 0) (i := 24 + k + 1) (v := ((V 6 (k + 1)) + (a))) dX9_flows_126 rfl (by decide) rfl (by omega) (by decide) ?_
          refine lk_sg (σ' := (lk_ms σ (lk_ou V 6 (k + 1) ((V 6 (k + 1)) + (a))) T)) (lk_w6 (by omega) (by omega)) ?_
          refine lk_aload_n dX9_flows_127 rfl rfl ?_
          refine lk_getR (f := 0) dX9_flows_128 rfl fX9_9 (by decide) (by decide) ?_
          refine lk_bipush (v := 24) dX9_flows_131 (by decide) ?_
          refine lk_iload_n dX9_flows_133 rfl rfl ?_
          refine lk_iaddN (a := 24) (b := k) dX9_flows_134 ?_
          refine lk_dup2 dX9_flows_135 rfl rfl ?_
          refine lk_ialdN (f := 0) (i := 24 + k) dX9_flows_136 rfl (by decide) rfl (by omega) (by decide) ?_
          refine lk_eqtop (y := ((lk_ou V 6 (k + 1) ((V 6 (k + 1)) + (a))) 6 (k))) (lk_r6 (by omega) (by omega)) ?_
          refine lk_iload_n dX9_flows_137 rfl rfl ?_
          refine lk_iadd dX9_flows_138 ?_
          refine lk_iastN (f := 0) (i := 24 + k) (v := (((lk_ou V 6 (k + 1) ((V 6 (k + 1)) + (a))) 6 (k)) + (b))) dX9_flows_139 rfl (by decide) rfl (by omega) (by decide) ?_
          refine lk_sg (σ' := (lk_ms σ (lk_ou (lk_ou V 6 (k + 1) ((V 6 (k + 1)) + (a))) 6 (k) (((lk_ou V 6 (k + 1) ((V 6 (k + 1)) + (a))) 6 (k)) + (b))) T)) (lk_w6 (by omega) (by omega)) ?_
          refine lk_iconst (v := 1) dX9_flows_140 (by decide) ?_
          refine lk_iret .boolean dX9_flows_141 rfl rfl ?_
          rw [hQ]
          rw [show lk_flw V k a b s = .inl (lk_ou (lk_ou V 6 (k + 1) (V 6 (k + 1) + a)) 6 k (V 6 k + b)) by unfold lk_flw; rw [lk_chk_t (r := k + 1) (by assumption) (by assumption), if_pos rfl, lk_chk_t (r := k) (by assumption) (by assumption), if_pos rfl]]
          refine ⟨rfl, ?_, rfl⟩
          rw [show lk_ou V 6 (k + 1) (V 6 (k + 1) + a) 6 k = V 6 k from lk_ou_ne (by omega)]
          rfl

set_option maxHeartbeats 1000000 in
set_option maxRecDepth 100000 in
theorem tX9_share_ms (l : Launch) (X : lk_G) (d : Nat) (σ : lk_N) (τ : lk_T) (V T : lk_O) (k : Nat) (hk : k < 6) (hp : ¬ V 3 k + 2 = 0) : lk_Mt l X mX9_share d [lk_vr 1 0, lk_vi (nI (k))] (lk_ms σ V T) τ (fun rr σ1 τ1 => rr = some (lk_vi (lk_shr V k)) ∧ σ1 = (lk_ms σ V T) ∧ τ1 = τ) := by
  refine lk_met (L := [(0, lk_vr 1 0), (1, lk_vi (nI (k)))]) (by decide +kernel) (Nat.le_of_ble_eq_true rfl) rfl ?_
  obtain ⟨Q, hQ⟩ : ∃ Q : lk_Q, Q = fun rr σ1 τ1 => rr = some (lk_vi (lk_shr V k)) ∧ σ1 = (lk_ms σ V T) ∧ τ1 = τ := ⟨_, rfl⟩
  rw [← hQ]
  refine lk_aload_n dX9_share_0 rfl rfl ?_
  refine lk_getR (f := 0) dX9_share_1 rfl fX9_9 (by decide) (by decide) ?_
  refine lk_iconst (v := 0) dX9_share_4 (by decide) ?_
  refine lk_iload_n dX9_share_5 rfl rfl ?_
  refine lk_iaddN (a := 0) (b := k) dX9_share_6 ?_
  refine lk_ialdN (f := 0) (i := 0 + k) dX9_share_7 rfl (by decide) rfl (by omega) (by decide) ?_
  refine lk_eqtop (y := (V 2 (k))) (lk_r2 (by omega) (by omega)) ?_
  refine lk_aload_n dX9_share_8 rfl rfl ?_
  refine lk_getR (f := 0) dX9_share_9 rfl fX9_9 (by decide) (by decide) ?_
  refine lk_bipush (v := 6) dX9_share_12 (by decide) ?_
  refine lk_iload_n dX9_share_14 rfl rfl ?_
  refine lk_iaddN (a := 6) (b := k) dX9_share_15 ?_
  refine lk_ialdN (f := 0) (i := 6 + k) dX9_share_16 rfl (by decide) rfl (by omega) (by decide) ?_
  refine lk_eqtop (y := (V 3 (k))) (lk_r3 (by omega) (by omega)) ?_
  refine lk_imul dX9_share_17 ?_
  refine lk_aload_n dX9_share_18 rfl rfl ?_
  refine lk_getR (f := 0) dX9_share_19 rfl fX9_9 (by decide) (by decide) ?_
  refine lk_bipush (v := 6) dX9_share_22 (by decide) ?_
  refine lk_iload_n dX9_share_24 rfl rfl ?_
  refine lk_iaddN (a := 6) (b := k) dX9_share_25 ?_
  refine lk_ialdN (f := 0) (i := 6 + k) dX9_share_26 rfl (by decide) rfl (by omega) (by decide) ?_
  refine lk_eqtop (y := (V 3 (k))) (lk_r3 (by omega) (by omega)) ?_
  refine lk_iconst (v := 2) dX9_share_27 (by decide) ?_
  refine lk_iadd dX9_share_28 ?_
  refine lk_idiv dX9_share_29 hp ?_
  refine lk_iret .int dX9_share_30 rfl rfl ?_
  rw [hQ]
  exact ⟨by first | rfl | (simp [*]; done) | (simp_all; done) | grind, by first | rfl | (simp [*]; done), rfl⟩

set_option maxHeartbeats 1000000 in
set_option maxRecDepth 100000 in
theorem tX9_fills (l : Launch) (X : lk_G) (d : Nat) (σ : lk_N) (τ : lk_T) (V T : lk_O) (k : Nat) (hk : k < 6) (hr : lk_rok V) : lk_Mt l X mX9_fills (d + 1) [lk_vr 1 0, lk_vi (nI (k))] (lk_ms σ V T) τ (fun rr σ1 τ1 => rr = some (lk_vi (lk_flR (lk_fil V k))) ∧ σ1 = lk_flS σ V T (lk_fil V k) ∧ τ1 = τ) := by
  refine lk_met (L := [(0, lk_vr 1 0), (1, lk_vi (nI (k)))]) (by decide +kernel) (Nat.le_of_ble_eq_true rfl) rfl ?_
  obtain ⟨Q, hQ⟩ : ∃ Q : lk_Q, Q = fun rr σ1 τ1 => rr = some (lk_vi (lk_flR (lk_fil V k))) ∧ σ1 = lk_flS σ V T (lk_fil V k) ∧ τ1 = τ := ⟨_, rfl⟩
  rw [← hQ]
  refine lk_aload_n dX9_fills_0 rfl rfl ?_
  refine lk_iload_n dX9_fills_1 rfl rfl ?_
  refine lk_aload_n dX9_fills_2 rfl rfl ?_
  refine lk_getR (f := 0) dX9_fills_3 rfl fX9_9 (by decide) (by decide) ?_
  refine lk_bipush (v := 12) dX9_fills_6 (by decide) ?_
  refine lk_iload_n dX9_fills_8 rfl rfl ?_
  refine lk_iaddN (a := 12) (b := k) dX9_fills_9 ?_
  refine lk_ialdN (f := 0) (i := 12 + k) dX9_fills_10 rfl (by decide) rfl (by omega) (by decide) ?_
  refine lk_eqtop (y := (V 4 (k))) (lk_r4 (by omega) (by omega)) ?_
  refine lk_aload_n dX9_fills_11 rfl rfl ?_
  refine lk_getR (f := 0) dX9_fills_12 rfl fX9_9 (by decide) (by decide) ?_
  refine lk_iconst (v := 0) dX9_fills_15 (by decide) ?_
  refine lk_iload_n dX9_fills_16 rfl rfl ?_
  refine lk_iaddN (a := 0) (b := k) dX9_fills_17 ?_
  refine lk_ialdN (f := 0) (i := 0 + k) dX9_fills_18 rfl (by decide) rfl (by omega) (by decide) ?_
  refine lk_eqtop (y := (V 2 (k))) (lk_r2 (by omega) (by omega)) ?_
  refine lk_isub dX9_fills_19 ?_
  refine lk_iconst (v := 0) dX9_fills_20 (by decide) ?_
  refine lk_iconst (v := 2) dX9_fills_21 (by decide) ?_
  rcases hfa : lk_flw V k (V 4 (k) - V 2 (k)) 0 2 with V1 | q1
  ·
    refine lk_callV (o := 1) (as := [lk_vi (nI (k)), lk_vi ((V 4 (k)) - (V 2 (k))), lk_vi 0, lk_vi 2]) (S := []) dX9_fills_22 rfl vX9_flows rfl lX9_127 rfl rfl (Nat.le_of_ble_eq_true rfl) (tX9_flows l X d σ τ (k := (k)) (a := ((V 4 (k)) - (V 2 (k)))) (b := 0) (s := 2) (V := V) (T := T) (hk := hk)) ?_
    refine lk_k3 ?_
    refine lk_cast (pc' := 25) (S' := [lk_vi (lk_flR (lk_flw V (k) ((V 4 (k)) - (V 2 (k))) 0 2))]) rfl rfl rfl ?_
    refine lk_eqtop (y := 1) (by rw [hfa]; rfl) ?_
    refine lk_sg (σ' := (lk_ms σ V1 T)) (by rw [hfa]; rfl) ?_
    refine lk_if_ne (tgt := 30) dX9_fills_25 (by decide) (fun hh1 => ?_) (fun hh1 => absurd hh1 (by decide))
    refine lk_aload_n dX9_fills_30 rfl rfl ?_
    refine lk_getR (f := 0) dX9_fills_31 rfl fX9_9 (by decide) (by decide) ?_
    refine lk_bipush (v := 12) dX9_fills_34 (by decide) ?_
    refine lk_iload_n dX9_fills_36 rfl rfl ?_
    refine lk_iaddN (a := 12) (b := k) dX9_fills_37 ?_
    refine lk_iconst (v := 0) dX9_fills_38 (by decide) ?_
    refine lk_iastN (f := 0) (i := 12 + k) (v := 0) dX9_fills_39 rfl (by decide) rfl (by omega) (by decide) ?_
    refine lk_sg (σ' := (lk_ms σ (lk_ou V1 4 (k) 0) T)) (lk_w4 (by omega) (by omega)) ?_
    refine lk_aload_n dX9_fills_40 rfl rfl ?_
    refine lk_getR (f := 0) dX9_fills_41 rfl fX9_9 (by decide) (by decide) ?_
    refine lk_bipush (v := 18) dX9_fills_44 (by decide) ?_
    refine lk_iload_n dX9_fills_46 rfl rfl ?_
    refine lk_iaddN (a := 18) (b := k) dX9_fills_47 ?_
    refine lk_iconst (v := 1) dX9_fills_48 (by decide) ?_
    refine lk_iastN (f := 0) (i := 18 + k) (v := 1) dX9_fills_49 rfl (by decide) rfl (by omega) (by decide) ?_
    refine lk_sg (σ' := (lk_ms σ (lk_ou (lk_ou V1 4 (k) 0) 5 (k) 1) T)) (lk_w5 (by omega) (by omega)) ?_
    refine lk_iconst (v := 1) dX9_fills_50 (by decide) ?_
    refine lk_iret .boolean dX9_fills_51 rfl rfl ?_
    rw [hQ]
    rw [lk_fil_flw hr hk, hfa]
    exact ⟨rfl, rfl, rfl⟩
  ·
    refine lk_callV (o := 1) (as := [lk_vi (nI (k)), lk_vi ((V 4 (k)) - (V 2 (k))), lk_vi 0, lk_vi 2]) (S := []) dX9_fills_22 rfl vX9_flows rfl lX9_127 rfl rfl (Nat.le_of_ble_eq_true rfl) (tX9_flows l X d σ τ (k := (k)) (a := ((V 4 (k)) - (V 2 (k)))) (b := 0) (s := 2) (V := V) (T := T) (hk := hk)) ?_
    refine lk_k3 ?_
    refine lk_cast (pc' := 25) (S' := [lk_vi (lk_flR (lk_flw V (k) ((V 4 (k)) - (V 2 (k))) 0 2))]) rfl rfl rfl ?_
    refine lk_eqtop (y := 0) (by rw [hfa]; rfl) ?_
    refine lk_sg (σ' := (lk_ms (lk_bar σ q1) V T)) (by rw [hfa]; rfl) ?_
    refine lk_if_ne (tgt := 30) dX9_fills_25 (by decide) (fun hh2 => absurd hh2 (by decide)) (fun hh2 => ?_)
    refine lk_iconst (v := 0) dX9_fills_28 (by decide) ?_
    refine lk_iret .boolean dX9_fills_29 rfl rfl ?_
    rw [hQ]
    rw [lk_fil_flw hr hk, hfa]
    exact ⟨rfl, rfl, rfl⟩

set_option maxHeartbeats 1000000 in
set_option maxRecDepth 100000 in
theorem tX9_empties (l : Launch) (X : lk_G) (d : Nat) (σ : lk_N) (τ : lk_T) (V T : lk_O) (k : Nat) (hk : k < 6) (hr : lk_rok V) (hp : ¬ V 3 k + 2 = 0) : lk_Mt l X mX9_empties (d + 1) [lk_vr 1 0, lk_vi (nI (k))] (lk_ms σ V T) τ (fun rr σ1 τ1 => rr = some (lk_vi (lk_flR (lk_emp V k))) ∧ σ1 = lk_flS σ V T (lk_emp V k) ∧ τ1 = τ) := by
  refine lk_met (L := [(0, lk_vr 1 0), (1, lk_vi (nI (k)))]) (by decide +kernel) (Nat.le_of_ble_eq_true rfl) rfl ?_
  obtain ⟨Q, hQ⟩ : ∃ Q : lk_Q, Q = fun rr σ1 τ1 => rr = some (lk_vi (lk_flR (lk_emp V k))) ∧ σ1 = lk_flS σ V T (lk_emp V k) ∧ τ1 = τ := ⟨_, rfl⟩
  rw [← hQ]
  refine lk_aload_n dX9_empties_0 rfl rfl ?_
  refine lk_iload_n dX9_empties_1 rfl rfl ?_
  refine lk_iconst (v := 0) dX9_empties_2 (by decide) ?_
  refine lk_aload_n dX9_empties_3 rfl rfl ?_
  refine lk_getR (f := 0) dX9_empties_4 rfl fX9_9 (by decide) (by decide) ?_
  refine lk_iconst (v := 0) dX9_empties_7 (by decide) ?_
  refine lk_iload_n dX9_empties_8 rfl rfl ?_
  refine lk_iaddN (a := 0) (b := k) dX9_empties_9 ?_
  refine lk_ialdN (f := 0) (i := 0 + k) dX9_empties_10 rfl (by decide) rfl (by omega) (by decide) ?_
  refine lk_eqtop (y := (V 2 (k))) (lk_r2 (by omega) (by omega)) ?_
  refine lk_aload_n dX9_empties_11 rfl rfl ?_
  refine lk_iload_n dX9_empties_12 rfl rfl ?_
  refine lk_callV (o := 1) (as := [lk_vi (nI (k))]) (S := [lk_vi (V 2 (k)), lk_vi 0, lk_vi (nI (k)), lk_vr 1 0]) dX9_empties_13 rfl vX9_share rfl lX9_58 rfl rfl (Nat.le_of_ble_eq_true rfl) (tX9_share_ms l X d σ τ (k := (k)) (V := V) (T := T) (hk := hk) (hp := hp)) ?_
  refine lk_k3 ?_
  refine lk_cast (pc' := 16) (S' := [lk_vi (lk_shr V (k)), lk_vi (V 2 (k)), lk_vi 0, lk_vi (nI (k)), lk_vr 1 0]) rfl rfl rfl ?_
  refine lk_isub dX9_empties_16 ?_
  refine lk_iconst (v := 1) dX9_empties_17 (by decide) ?_
  rcases hfa : lk_flw V k 0 (V 2 (k) - lk_shr V (k)) 1 with V1 | q1
  ·
    refine lk_callV (o := 1) (as := [lk_vi (nI (k)), lk_vi 0, lk_vi ((V 2 (k)) - (lk_shr V (k))), lk_vi 1]) (S := []) dX9_empties_18 rfl vX9_flows rfl lX9_127 rfl rfl (Nat.le_of_ble_eq_true rfl) (tX9_flows l X d σ τ (k := (k)) (a := 0) (b := ((V 2 (k)) - (lk_shr V (k)))) (s := 1) (V := V) (T := T) (hk := hk)) ?_
    refine lk_k3 ?_
    refine lk_cast (pc' := 21) (S' := [lk_vi (lk_flR (lk_flw V (k) 0 ((V 2 (k)) - (lk_shr V (k))) 1))]) rfl rfl rfl ?_
    refine lk_eqtop (y := 1) (by rw [hfa]; rfl) ?_
    refine lk_sg (σ' := (lk_ms σ V1 T)) (by rw [hfa]; rfl) ?_
    refine lk_if_ne (tgt := 26) dX9_empties_21 (by decide) (fun hh1 => ?_) (fun hh1 => absurd hh1 (by decide))
    refine lk_aload_n dX9_empties_26 rfl rfl ?_
    refine lk_getR (f := 0) dX9_empties_27 rfl fX9_9 (by decide) (by decide) ?_
    refine lk_bipush (v := 12) dX9_empties_30 (by decide) ?_
    refine lk_iload_n dX9_empties_32 rfl rfl ?_
    refine lk_iaddN (a := 12) (b := k) dX9_empties_33 ?_
    refine lk_aload_n dX9_empties_34 rfl rfl ?_
    refine lk_iload_n dX9_empties_35 rfl rfl ?_
    refine lk_callV (o := 1) (as := [lk_vi (nI (k))]) (S := [lk_vi (nI (12 + k)), lk_vr 1 1]) dX9_empties_36 rfl vX9_share rfl lX9_58 rfl rfl (Nat.le_of_ble_eq_true rfl) (tX9_share_ms l X d σ τ (k := (k)) (V := V1) (T := T) (hk := hk) (hp := by rw [lk_flw_3 hfa]; exact hp)) ?_
    refine lk_k3 ?_
    refine lk_cast (pc' := 39) (S' := [lk_vi (lk_shr V1 (k)), lk_vi (nI (12 + k)), lk_vr 1 1]) rfl rfl rfl ?_
    refine lk_iastN (f := 0) (i := 12 + k) (v := (lk_shr V1 (k))) dX9_empties_39 rfl (by decide) rfl (by omega) (by decide) ?_
    refine lk_sg (σ' := (lk_ms σ (lk_ou V1 4 (k) (lk_shr V1 (k))) T)) (lk_w4 (by omega) (by omega)) ?_
    refine lk_aload_n dX9_empties_40 rfl rfl ?_
    refine lk_getR (f := 0) dX9_empties_41 rfl fX9_9 (by decide) (by decide) ?_
    refine lk_bipush (v := 18) dX9_empties_44 (by decide) ?_
    refine lk_iload_n dX9_empties_46 rfl rfl ?_
    refine lk_iaddN (a := 18) (b := k) dX9_empties_47 ?_
    refine lk_iconst (v := 0) dX9_empties_48 (by decide) ?_
    refine lk_iastN (f := 0) (i := 18 + k) (v := 0) dX9_empties_49 rfl (by decide) rfl (by omega) (by decide) ?_
    refine lk_sg (σ' := (lk_ms σ (lk_ou (lk_ou V1 4 (k) (lk_shr V1 (k))) 5 (k) 0) T)) (lk_w5 (by omega) (by omega)) ?_
    refine lk_iconst (v := 1) dX9_empties_50 (by decide) ?_
    refine lk_iret .boolean dX9_empties_51 rfl rfl ?_
    rw [hQ]
    rw [lk_emp_flw hr hk, hfa, lk_flw_s hfa]
    exact ⟨rfl, rfl, rfl⟩
  ·
    refine lk_callV (o := 1) (as := [lk_vi (nI (k)), lk_vi 0, lk_vi ((V 2 (k)) - (lk_shr V (k))), lk_vi 1]) (S := []) dX9_empties_18 rfl vX9_flows rfl lX9_127 rfl rfl (Nat.le_of_ble_eq_true rfl) (tX9_flows l X d σ τ (k := (k)) (a := 0) (b := ((V 2 (k)) - (lk_shr V (k)))) (s := 1) (V := V) (T := T) (hk := hk)) ?_
    refine lk_k3 ?_
    refine lk_cast (pc' := 21) (S' := [lk_vi (lk_flR (lk_flw V (k) 0 ((V 2 (k)) - (lk_shr V (k))) 1))]) rfl rfl rfl ?_
    refine lk_eqtop (y := 0) (by rw [hfa]; rfl) ?_
    refine lk_sg (σ' := (lk_ms (lk_bar σ q1) V T)) (by rw [hfa]; rfl) ?_
    refine lk_if_ne (tgt := 26) dX9_empties_21 (by decide) (fun hh2 => absurd hh2 (by decide)) (fun hh2 => ?_)
    refine lk_iconst (v := 0) dX9_empties_24 (by decide) ?_
    refine lk_iret .boolean dX9_empties_25 rfl rfl ?_
    rw [hQ]
    rw [lk_emp_flw hr hk, hfa]
    exact ⟨rfl, rfl, rfl⟩
