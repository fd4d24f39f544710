/-! canals that agree in what they have behave alike -/
def lk_eqr (V W : lk_O) : Prop := V 0 0 = W 0 0 ∧ V 1 0 = W 1 0 ∧ (∀ f i, 2 ≤ f → f ≤ 5 → i < 6 → V f i = W f i) ∧ ∀ f i, 6 ≤ f → f ≤ 9 → i < 7 → V f i = W f i
def lk_eqt (T U : lk_O) : Prop := ∀ i, i < 118 → T 0 i = U 0 i
theorem lk_eqr_rf (V : lk_O) : lk_eqr V V := ⟨rfl, rfl, fun _ _ _ _ _ => rfl, fun _ _ _ _ _ => rfl⟩
theorem lk_eqr_sy {V W : lk_O} (h : lk_eqr V W) : lk_eqr W V := ⟨h.1.symm, h.2.1.symm, fun f i a b c => (h.2.2.1 f i a b c).symm, fun f i a b c => (h.2.2.2 f i a b c).symm⟩
theorem lk_eqr_tr {V W U : lk_O} (h : lk_eqr V W) (g : lk_eqr W U) : lk_eqr V U := ⟨h.1.trans g.1, h.2.1.trans g.2.1, fun f i a b c => (h.2.2.1 f i a b c).trans (g.2.2.1 f i a b c), fun f i a b c => (h.2.2.2 f i a b c).trans (g.2.2.2 f i a b c)⟩
theorem lk_eqr_im (V W : lk_O) : lk_eqr (lk_im V W) V := ⟨rfl, rfl, fun f i a b c => by simp only [lk_im]; rw [if_pos (by omega)], fun f i a b c => by simp only [lk_im]; rw [if_pos (by omega)]⟩
theorem lk_eqr_ou {V W : lk_O} (h : lk_eqr V W) (f i : Nat) (v : Int32) : lk_eqr (lk_ou V f i v) (lk_ou W f i v) := by
  refine ⟨?_, ?_, fun g j a b c => ?_, fun g j a b c => ?_⟩
  · simp only [lk_ou]; split
    · rfl
    · exact h.1
  · simp only [lk_ou]; split
    · rfl
    · exact h.2.1
  · simp only [lk_ou]; split
    · rfl
    · exact h.2.2.1 g j a b c
  · simp only [lk_ou]; split
    · rfl
    · exact h.2.2.2 g j a b c
/-- a number put where no canal has one -/
theorem lk_eqr_12 (V : lk_O) (v : Int32) : lk_eqr (lk_ou V 12 0 v) V := ⟨by simp [lk_ou], by simp [lk_ou], fun f i a b c => by simp only [lk_ou]; rw [if_neg (by omega)], fun f i a b c => by simp only [lk_ou]; rw [if_neg (by omega)]⟩
def lk_pr (p q : lk_P) : Prop := match p, q with
  | .inl V, .inl W => lk_eqr V W
  | .inr a, .inr b => a = b
  | _, _ => False
theorem lk_chk_c {V W : lk_O} {r : Nat} (h : lk_eqr V W) (hr : r < 7) (g : Int32) : lk_chk V r g = lk_chk W r g ∧ lk_side V r g = lk_side W r g := by
  unfold lk_chk lk_side
  rw [h.2.2.2 6 r (by decide) (by decide) hr, h.2.2.2 7 r (by decide) (by decide) hr, h.2.2.2 8 r (by decide) (by decide) hr]
  exact ⟨rfl, rfl⟩
theorem lk_fil_c {V W : lk_O} {k : Nat} (h : lk_eqr V W) (hk : k < 6) : lk_pr (lk_fil V k) (lk_fil W k) := by
  have e2 := h.2.2.1 2 k (by decide) (by decide) hk
  have e4 := h.2.2.1 4 k (by decide) (by decide) hk
  have e6 := h.2.2.2 6 (k + 1) (by decide) (by decide) (by omega)
  have hc := lk_chk_c h (show k + 1 < 7 by omega) (0 - (W 2 k - W 4 k))
  unfold lk_fil
  rw [e2, e4, e6, hc.1, hc.2]
  cases lk_chk W (k + 1) (0 - (W 2 k - W 4 k))
  · exact rfl
  · exact lk_eqr_ou (lk_eqr_ou (lk_eqr_ou h _ _ _) _ _ _) _ _ _
theorem lk_emp_c {V W : lk_O} {k : Nat} (h : lk_eqr V W) (hk : k < 6) : lk_pr (lk_emp V k) (lk_emp W k) := by
  have e2 := h.2.2.1 2 k (by decide) (by decide) hk
  have e6 := h.2.2.2 6 k (by decide) (by decide) (by omega)
  have es : lk_shr V k = lk_shr W k := by unfold lk_shr; rw [e2, h.2.2.1 3 k (by decide) (by decide) hk]
  have hc := lk_chk_c h (show k < 7 by omega) (W 2 k - lk_shr W k)
  unfold lk_emp
  rw [es, e2, e6, hc.1, hc.2]
  cases lk_chk W k (W 2 k - lk_shr W k)
  · exact rfl
  · exact lk_eqr_ou (lk_eqr_ou (lk_eqr_ou h _ _ _) _ _ _) _ _ _
theorem lk_swp_c {V W : lk_O} {k : Nat} {z : Int32} (h : lk_eqr V W) (hk : k < 6) : lk_pr (lk_swp V k z) (lk_swp W k z) := by
  have e6 := h.2.2.2 6 k (by decide) (by decide) (by omega)
  have f6 := h.2.2.2 6 (k + 1) (by decide) (by decide) (by omega)
  have hc := lk_chk_c h (show k < 7 by omega) z
  have hd := lk_chk_c h (show k + 1 < 7 by omega) (0 - z)
  unfold lk_swp
  rw [e6, f6, hc.1, hc.2, hd.1, hd.2]
  cases lk_chk W (k + 1) (0 - z)
  · exact rfl
  · cases lk_chk W k z
    · exact rfl
    · exact lk_eqr_ou (lk_eqr_ou h _ _ _) _ _ _
theorem lk_sb_c {p q : lk_P} {f : lk_O → lk_P} (h : lk_pr p q) (hf : ∀ V W, lk_eqr V W → lk_pr (f V) (f W)) : lk_pr (lk_sb p f) (lk_sb q f) := by
  rcases p with V | a <;> rcases q with W | b
  · exact hf V W h
  · exact h.elim
  · exact h.elim
  · exact h
theorem lk_pas_c {V W : lk_O} {k : Nat} {up : Bool} {z : Int32} (h : lk_eqr V W) (hk : k < 6) : lk_pr (lk_pas V k up z) (lk_pas W k up z) := by
  have e5 := h.2.2.1 5 k (by decide) (by decide) hk
  cases up with
  | true =>
    simp only [lk_pas, e5]
    refine lk_sb_c (lk_sb_c ?_ (fun A B g => lk_fil_c g hk)) (fun A B g => lk_swp_c g hk)
    by_cases hc : W 5 k = 0
    · rw [if_pos hc, if_pos hc]; exact h
    · rw [if_neg hc, if_neg hc]; exact lk_emp_c h hk
  | false =>
    simp only [lk_pas, e5]
    refine lk_sb_c (lk_sb_c ?_ (fun A B g => lk_emp_c g hk)) (fun A B g => lk_swp_c g hk)
    by_cases hc : W 5 k = 0
    · rw [if_pos hc, if_pos hc]; exact lk_fil_c h hk
    · rw [if_neg hc, if_neg hc]; exact h
theorem lk_tad_c {T U : lk_O} (h : lk_eqt T U) {s : Int32} : lk_eqt (lk_tad T s) (lk_tad U s) := by
  intro i hi
  unfold lk_tad
  split
  · exact h i hi
  · rename_i hs
    simp only [lk_ou]
    split
    · have hv := lk_tin (fun z => hs (Or.inl z)) (fun z => hs (Or.inr z))
      rw [h _ (Nat.not_le.mp fun q => hv (Or.inr q))]
    · exact h i hi
def lk_jr (a b : Nat × lk_J) : Prop := a.1 = b.1 ∧ a.2.1 = b.2.1 ∧ lk_eqr a.2.2.1 b.2.2.1 ∧ lk_eqt a.2.2.2 b.2.2.2
theorem lk_trv_c {up : Bool} {z : Int32} : ∀ (ks : List Nat) {V W T U : lk_O}, (∀ k ∈ ks, k < 6) → lk_eqr V W → lk_eqt T U → lk_jr (lk_trv up z ks V T) (lk_trv up z ks W U)
  | [], V, W, T, U, _, h, g => ⟨rfl, rfl, h, g⟩
  | k :: ks, V, W, T, U, hk, h, g => by
    have hk6 := hk k List.mem_cons_self
    have hp := lk_pas_c (up := up) (z := z) h hk6
    unfold lk_trv
    rcases hv : lk_pas V k up z with V' | a <;> rcases hw : lk_pas W k up z with W' | b <;> rw [hv, hw] at hp
    · have h6 := h.2.2.2 6 (k + 1) (by decide) (by decide) (by omega)
      have h6' := hp.2.2.2 6 (k + 1) (by decide) (by decide) (by omega)
      have ih := lk_trv_c (up := up) (z := z) ks (fun a ha => hk a (List.mem_cons_of_mem _ ha)) hp (lk_tad_c g (s := W 6 (k + 1) - W' 6 (k + 1)))
      simp only [h6, h6']
      exact ⟨by rw [ih.1], ih.2.1, ih.2.2.1, ih.2.2.2⟩
    · exact hp.elim
    · exact hp.elim
    · have : a = b := hp
      subst this
      exact ⟨rfl, rfl, h, g⟩
theorem lk_dyl_c {n u d : Nat} (hn : n ≤ 6) : ∀ (m a b : Nat) {V W T U : lk_O}, lk_eqr V W → lk_eqt T U → lk_jr (lk_dyl n u d m a b V T) (lk_dyl n u d m a b W U)
  | 0, a, b, V, W, T, U, h, g => ⟨rfl, rfl, h, g⟩
  | m + 1, a, b, V, W, T, U, h, g => by
    unfold lk_dyl
    have ht := lk_trv_c (up := lk_way u d a b) (z := 0) (lk_lks (lk_way u d a b) (if lk_way u d a b = true then 0 else n) n) (fun k hk => Nat.lt_of_lt_of_le (lk_lks_lt (by split <;> omega) k hk) hn) h g
    rcases hv : lk_trv (lk_way u d a b) 0 (lk_lks (lk_way u d a b) (if lk_way u d a b = true then 0 else n) n) V T with ⟨i, _ | q, V', T'⟩ <;> rcases hw : lk_trv (lk_way u d a b) 0 (lk_lks (lk_way u d a b) (if lk_way u d a b = true then 0 else n) n) W U with ⟨j, _ | r, W', U'⟩ <;> rw [hv, hw] at ht
    · obtain ⟨h1, h2, h3, h4⟩ := ht
      have h1' : i = j := h1
      subst h1'
      have ih := lk_dyl_c (u := u) (d := d) hn m (if lk_way u d a b = true then a + 1 else a) (if lk_way u d a b = true then b else b + 1) h3 h4
      exact ⟨by show _ + i = _ + i; rw [ih.1], ih.2.1, ih.2.2.1, ih.2.2.2⟩
    · exact absurd ht.2.1 (by simp)
    · exact absurd ht.2.1 (by simp)
    · exact ht
theorem lk_lag_c {V W : lk_O} {n : Nat} (h : lk_eqr V W) (hn : n ≤ 6) : lk_eqr (lk_lag V n) (lk_lag W n) := by
  have key : ∀ i, i < 7 → (if V 7 i < V 6 i - V 9 i then V 6 i - V 9 i else V 7 i) = (if W 7 i < W 6 i - W 9 i then W 6 i - W 9 i else W 7 i) := by
    intro i hi
    rw [h.2.2.2 6 i (by decide) (by decide) hi, h.2.2.2 7 i (by decide) (by decide) hi, h.2.2.2 9 i (by decide) (by decide) hi]
  have e8 := h.2.2.2 8 n (by decide) (by decide) (by omega)
  unfold lk_lag
  rw [key n (by omega), e8, h.2.1]
  refine lk_eqr_ou ⟨?_, ?_, fun f i a b c => ?_, fun f i a b c => ?_⟩ _ _ _
  · simpa using h.1
  · simpa using h.2.1
  · show (if f = 6 ∧ i ≤ n then _ else V f i) = (if f = 6 ∧ i ≤ n then _ else W f i)
    rw [if_neg (by omega), if_neg (by omega)]; exact h.2.2.1 f i a b c
  · show (if f = 6 ∧ i ≤ n then _ else V f i) = (if f = 6 ∧ i ≤ n then _ else W f i)
    by_cases e : f = 6 ∧ i ≤ n
    · rw [if_pos e, if_pos e]; exact key i c
    · rw [if_neg e, if_neg e]; exact h.2.2.2 f i a b c
theorem lk_day_c {V W T U : lk_O} {n u d : Nat} (h : lk_eqr V W) (g : lk_eqt T U) (hn : n ≤ 6) : lk_jr (lk_day V T n u d) (lk_day W U n u d) := lk_dyl_c hn _ _ _ (lk_eqr_ou (lk_lag_c h hn) _ _ _) g
theorem lk_fl_r (j : lk_J) : lk_eqr (lk_fl j) j.2.1 := by
  obtain ⟨_ | q, V, T⟩ := j
  · exact lk_eqr_rf _
  · exact lk_eqr_12 V 1
theorem lk_fl_c {a b : Nat × lk_J} (h : lk_jr a b) : lk_eqr (lk_fl a.2) (lk_fl b.2) := lk_eqr_tr (lk_fl_r a.2) (lk_eqr_tr h.2.2.1 (lk_eqr_sy (lk_fl_r b.2)))
theorem lk_dys_c {n u e : Nat} (hn : n ≤ 6) : ∀ (m : Nat) {V W T U : lk_O}, lk_eqr V W → lk_eqt T U → lk_eqr (lk_dys n u e m V T).1 (lk_dys n u e m W U).1
  | 0, V, W, T, U, h, g => h
  | m + 1, V, W, T, U, h, g => by
    have hd := lk_day_c (u := u) (d := e) h g hn
    exact lk_dys_c hn m (lk_fl_c hd) hd.2.2.2
theorem lk_drf_c {n u e : Nat} (hn : n ≤ 6) : ∀ (m i : Nat) {V W T U : lk_O}, lk_eqr V W → lk_eqt T U → lk_drf n u e m i V T = lk_drf n u e m i W U
  | 0, i, V, W, T, U, h, g => rfl
  | m + 1, i, V, W, T, U, h, g => by
    have hd := lk_day_c (u := u) (d := e) h g hn
    unfold lk_drf
    rw [hd.2.1]
    split
    · rfl
    · exact lk_drf_c hn m (i + 1) (lk_fl_c hd) hd.2.2.2
