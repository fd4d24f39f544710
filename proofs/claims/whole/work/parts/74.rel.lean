/-! THE RELATION: the class's numbers and the model's -/
/-- the boats: the class's fleet B, the model's numbers N -/
def lk_fok (n nf : Nat) (N : Nat → Int32) (B : lk_O) : Prop := B 5 0 = nI nf ∧ nf ≤ 12 ∧ N 114 = nI nf ∧
  (∀ b, b < nf → N (54 + b) = B 0 b ∧ N (66 + b) = B 1 b ∧ N (78 + b) = B 2 b ∧ N (90 + b) = B 3 b ∧ N (102 + b) = B 4 b) ∧ (∀ i, i < 22 → B 3 i = 0 ∨ B 3 i = 1) ∧
  (∀ b, b < nf → (0 ≤ (B 1 b).toInt ∧ (B 1 b).toInt ≤ 9) ∧ lk_nok (B 0 b) ∧ ∃ r, r ≤ n ∧ B 4 b = nI r) ∧ ∀ a b, a < b → b < nf → B 0 a < B 0 b
def lk_RI (n nf : Nat) (N : Nat → Int32) (V T B : lk_O) (c : Nat) : Prop := lk_all V n ∧ lk_mw V T N = N ∧ (N 233 = 0 ∧ N 234 = 0) ∧ (∀ k, k < 118 → 0 ≤ (T 0 k).toInt ∧ (T 0 k).toInt ≤ 60 * c) ∧ lk_fok n nf N B
/-- the tapes -/
def lk_tpe (σ : lk_N) (nt : Nat) : Prop := σ 14 1 0 = nI nt ∧ nt ≤ 60 ∧ σ 1 12 0 = nI nt ∧ ∀ a, a < nt → σ 1 13 a = σ 14 0 a ∧ 32 ≤ (σ 14 0 a).toInt ∧ (σ 14 0 a).toInt ≤ 126
/-- the causes -/
def lk_cse (σ : lk_N) : Prop := ∀ i, i ≤ 3 → lk_cnum (σ 4) i = if σ 1 10 0 = 0 then -2 else σ 1 11 i
/-- the images -/
def lk_img9 (σ : lk_N) (τ : lk_T) (c : Nat) : Prop := (σ 0 7 0 = 0 ∧ σ 1 3 0 = 0) ∨ (σ 0 7 0 = 1 ∧ σ 1 3 0 = 1 ∧ τ 0 6 = τ 1 5 ∧ ∃ n nf, lk_RI n nf (σ 1 1) (σ 5) (σ 6) (σ 13) c)
def lk_R (σ : lk_N) (τ : lk_T) (n nf nt c : Nat) : Prop := lk_RI n nf (σ 1 0) (σ 2) (σ 3) (σ 11) c ∧ lk_tpe σ nt ∧ lk_cse σ ∧ τ 0 3 = τ 1 4 ∧ lk_img9 σ τ c
def lk_Rel (σ : lk_N) (τ : lk_T) (c : Nat) : Prop := ∃ n nf nt, lk_R σ τ n nf nt c
theorem lk_RI_c {n nf : Nat} {N : Nat → Int32} {V T B : lk_O} {c : Nat} (h : lk_RI n nf N V T B c) : lk_RI n nf N V T B (c + 1) :=
  ⟨h.1, h.2.1, h.2.2.1, fun k hk => by have := h.2.2.2.1 k hk; constructor <;> omega, h.2.2.2.2⟩
theorem lk_img9_c {σ : lk_N} {τ : lk_T} {c : Nat} (h : lk_img9 σ τ c) : lk_img9 σ τ (c + 1) := by
  rcases h with h | ⟨a, b, e, n, nf, h⟩
  · exact Or.inl h
  · exact Or.inr ⟨a, b, e, n, nf, lk_RI_c h⟩
/-- of which fields the relation speaks -/
def lk_rl (o f : Nat) : Bool := (o == 0 && f == 7) || o == 2 || o == 3 || o == 4 || o == 5 || o == 6 || o == 11 || o == 13 || o == 14 || (o == 1 && (f == 0 || f == 1 || f == 3 || f == 11 || f == 12 || f == 13))
def lk_kp (σ W : lk_N) : Prop := (∀ o f i, lk_rl o f = true → W o f i = σ o f i) ∧ W 1 10 0 = σ 1 10 0
theorem lk_kp_rf (σ : lk_N) : lk_kp σ σ := ⟨fun _ _ _ _ => rfl, rfl⟩
theorem lk_kp_tr {σ W U : lk_N} (h : lk_kp σ W) (g : lk_kp W U) : lk_kp σ U := ⟨fun o f i q => (g.1 o f i q).trans (h.1 o f i q), g.2.trans h.2⟩
theorem lk_kp_fr {σ W : lk_N} (h : lk_fr σ W) : lk_kp σ W := ⟨(fun o f i q => by
  rw [h o]
  cases hs : lk_scr o
  · rfl
  · exfalso
    have : ∀ o, lk_scr o = true → lk_rl o f = false := by
      intro o hs
      simp only [lk_scr, Bool.or_eq_true, beq_iff_eq] at hs
      rcases hs with ((((((h | h) | h) | h) | h) | h) | h) | h <;> subst h <;> simp [lk_rl]
    rw [this o hs] at q; cases q), by rw [h 1 rfl]⟩
theorem lk_kp_fx {S : List Nat} {σ W : lk_N} (h : lk_fx S σ W) (hS : ∀ f ∈ S, lk_rl 1 f = false) (h10 : 10 ∉ S) : lk_kp σ W := ⟨fun o f i q => h o f i (fun ⟨e, z⟩ => by subst e; rw [hS f z] at q; cases q), h 1 10 0 (fun z => h10 z.2)⟩
theorem lk_kp_kz {S : List Nat} {σ W : lk_N} (h : lk_fx S σ W) (hS : ∀ f ∈ S, f = 11 ∨ lk_rl 1 f = false) (hk : lk_kz σ W none) : lk_kp σ W := ⟨(fun o f i q => by
  by_cases e : o = 1 ∧ f ∈ S
  · obtain ⟨rfl, z⟩ := e
    rcases hS f z with rfl | g
    · rw [hk.2]
    · rw [g] at q; cases q
  · exact h o f i e), hk.1⟩
theorem lk_kp_o {σ W : lk_N} (h : lk_kp σ W) {o : Nat} (ho : ∀ f, lk_rl o f = true) : W o = σ o := funext fun f => funext fun i => h.1 o f i (ho f)
theorem lk_kp_f {σ W : lk_N} (h : lk_kp σ W) {o f : Nat} (ho : lk_rl o f = true) : W o f = σ o f := funext fun i => h.1 o f i ho
theorem lk_R_kp {σ W : lk_N} {τ : lk_T} {n nf nt c : Nat} (h : lk_kp σ W) (hR : lk_R σ τ n nf nt c) : lk_R W τ n nf nt (c + 1) := by
  obtain ⟨h1, h2, h3, h4, h5⟩ := hR
  have e2 := lk_kp_o h (o := 2) (fun f => by simp [lk_rl])
  have e3 := lk_kp_o h (o := 3) (fun f => by simp [lk_rl])
  have e4 := lk_kp_o h (o := 4) (fun f => by simp [lk_rl])
  have e5 := lk_kp_o h (o := 5) (fun f => by simp [lk_rl])
  have e6 := lk_kp_o h (o := 6) (fun f => by simp [lk_rl])
  have e11 := lk_kp_o h (o := 11) (fun f => by simp [lk_rl])
  have e13 := lk_kp_o h (o := 13) (fun f => by simp [lk_rl])
  have e14 := lk_kp_o h (o := 14) (fun f => by simp [lk_rl])
  have f0 := lk_kp_f h (o := 1) (f := 0) rfl
  have f1 := lk_kp_f h (o := 1) (f := 1) rfl
  have f3 := lk_kp_f h (o := 1) (f := 3) rfl
  have f10 := h.2
  have f11 := lk_kp_f h (o := 1) (f := 11) rfl
  have f12 := lk_kp_f h (o := 1) (f := 12) rfl
  have f13 := lk_kp_f h (o := 1) (f := 13) rfl
  have g7 := lk_kp_f h (o := 0) (f := 7) rfl
  refine ⟨?_, ?_, ?_, h4, ?_⟩
  · rw [f0, e2, e3, e11]; exact lk_RI_c h1
  · unfold lk_tpe; rw [e14, f12, f13]; exact h2
  · unfold lk_cse; rw [e4, f10, f11]; exact h3
  · have := lk_img9_c h5
    unfold lk_img9; rw [g7, f3, f1, e5, e6, e13]; exact this
theorem lk_R_c {σ : lk_N} {τ : lk_T} {n nf nt c : Nat} (hR : lk_R σ τ n nf nt c) : lk_Rel σ τ (c + 1) := ⟨n, nf, nt, lk_R_kp (lk_kp_rf σ) hR⟩
theorem lk_R_ms {σ : lk_N} {τ : lk_T} {n nf nt c : Nat} (hR : lk_R σ τ n nf nt c) {s : lk_N} (h : s 1 0 = σ 1 0) : lk_ms s (σ 2) (σ 3) = s := by
  unfold lk_ms
  rw [h, hR.1.2.1, ← h, lk_sw_self]
/-- the model's boats, all that its rows hold -/
def lk_BM (N : Nat → Int32) : lk_O := fun f j => if f < 5 then N (54 + 12 * f + j) else N 114
theorem lk_mb_BM (σ : lk_N) : lk_mb σ (lk_BM (σ 1 0)) = σ := by
  have e : lk_mbw (lk_BM (σ 1 0)) (σ 1 0) = σ 1 0 := by
    funext i
    simp only [lk_mbw, lk_BM]
    by_cases h : 54 ≤ i ∧ i < 114
    · rw [if_pos h, if_pos (by omega)]; congr 1; omega
    · rw [if_neg h]
      by_cases g : i = 114
      · subst g; simp
      · rw [if_neg g]
  unfold lk_mb; rw [e, lk_sw_self]
section PP
variable {l : Launch} {X : lk_G}
/-- v is of the type that the method returns -/
def lk_vty (ret : Option FieldType) : lk_V → Prop
  | .inl _ => ret = some .int
  | .inr (.inl _) => ret = some .long
  | _ => False
/-- what a call of the model must do behind the class's: answer so, and keep the relation -/
def lk_PP (l : Launch) (X : lk_G) (M : lk_M) (d : Nat) (args : List lk_V) (c : Nat) : lk_Q := fun r σ1 τ1 => (∃ v, r = some v ∧ lk_vty M.2.2.2 v) ∧ lk_Mt l X M d args σ1 τ1 (fun r2 σ2 τ2 => r2 = r ∧ lk_Rel σ2 τ2 (c + 1))
theorem lk_msx {M : lk_M} {d : Nat} {a : List lk_V} {σ : lk_N} {τ : lk_T} {V T : lk_O} {Q : lk_Q} (e : lk_ms σ V T = σ) (h : lk_Mt l X M d a (lk_ms σ V T) τ Q) : lk_Mt l X M d a σ τ Q := by rwa [e] at h
theorem lk_mbx {M : lk_M} {d : Nat} {a : List lk_V} {σ : lk_N} {τ : lk_T} {B : lk_O} {Q : lk_Q} (e : lk_mb σ B = σ) (h : lk_Mt l X M d a (lk_mb σ B) τ Q) : lk_Mt l X M d a σ τ Q := by rwa [e] at h
/-- class and model answer v; the class leaves σ1, the model σ2 -/
theorem lk_pp {Mc Mm : lk_M} {d d2 : Nat} {a a2 : List lk_V} {σ σ1 : lk_N} {τ τ1 : lk_T} {v : lk_V} {c : Nat} (hc : lk_Mt l X Mc d a σ τ (fun r s t => r = some v ∧ s = σ1 ∧ t = τ1))
    (hm : lk_Mt l X Mm d2 a2 σ1 τ1 (fun r s t => r = some v ∧ lk_Rel s t (c + 1))) (hv : lk_vty Mm.2.2.2 v := by exact rfl) : lk_Mt l X Mc d a σ τ (lk_PP l X Mm d2 a2 c) :=
  lk_Mt_mono hc (fun r s t ⟨h1, h2, h3⟩ => by subst h1; subst h2; subst h3; exact ⟨⟨v, rfl, hv⟩, hm⟩)
theorem lk_pf {M : lk_M} {d : Nat} {a : List lk_V} {σ σ2 : lk_N} {τ τ2 : lk_T} {v : lk_V} {c : Nat} (hm : lk_Mt l X M d a σ τ (fun r s t => r = some v ∧ s = σ2 ∧ t = τ2)) (hR : lk_Rel σ2 τ2 c) : lk_Mt l X M d a σ τ (fun r s t => r = some v ∧ lk_Rel s t c) :=
  lk_Mt_mono hm (fun r s t ⟨h1, h2, h3⟩ => by subst h2; subst h3; exact ⟨h1, hR⟩)
end PP
/-- an index that is there -/
theorem lk_in_n {k : Int32} {n : Nat} (hn : n < 1000) (h : 0 ≤ k) (h2 : k < nI n) : ∃ j, j < n ∧ k = nI j := by
  obtain ⟨j, hj, rfl⟩ := nI_of (Int32.not_lt.mpr h)
  refine ⟨j, ?_, rfl⟩
  have := Int32.lt_iff_toInt_lt.mp h2
  rw [nI_toInt (by omega), nI_toInt (by omega)] at this
  omega
/-- k is an index below n, or none -/
theorem lk_ix {k : Int32} {n : Nat} (hn : n < 1000) : (∃ j, j < n ∧ k = nI j) ∨ ((k < 0 ∨ nI n ≤ k) ∧ ¬ (0 ≤ k ∧ k ≤ nI n - 1)) := by
  by_cases h : 0 ≤ k ∧ k < nI n
  · exact Or.inl (lk_in_n hn h.1 h.2)
  · refine Or.inr ⟨?_, ?_⟩
    · by_cases h0 : 0 ≤ k
      · exact Or.inr (Int32.not_lt.mp (fun q => h ⟨h0, q⟩))
      · exact Or.inl (Int32.not_le.mp h0)
    · rintro ⟨a, b⟩
      apply h
      refine ⟨a, Int32.lt_iff_toInt_lt.mpr ?_⟩
      have := Int32.le_iff_toInt_le.mp b
      rw [lk_ts (nI_toInt (by omega)) (show (1 : Int32).toInt = 1 from rfl) (by omega) (by omega) (by decide) (by decide)] at this
      rw [nI_toInt (by omega)]
      omega
theorem lk_ix2 {k : Int32} {n : Nat} (hn : n < 1000) : (∃ j, j ≤ n ∧ k = nI j) ∨ ((k < 0 ∨ nI n < k) ∧ ¬ (0 ≤ k ∧ k ≤ nI n)) := by
  by_cases h : 0 ≤ k ∧ k ≤ nI n
  · obtain ⟨j, hj, rfl⟩ := nI_of (Int32.not_lt.mpr h.1)
    refine Or.inl ⟨j, ?_, rfl⟩
    have := Int32.le_iff_toInt_le.mp h.2
    rw [nI_toInt (by omega), nI_toInt (by omega)] at this
    omega
  · refine Or.inr ⟨?_, h⟩
    by_cases h0 : 0 ≤ k
    · exact Or.inr (Int32.not_le.mp (fun q => h ⟨h0, q⟩))
    · exact Or.inl (Int32.not_le.mp h0)
