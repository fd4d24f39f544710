theorem lk_ms_e (σ : lk_N) {V V' T : lk_O} (h : ∀ f i, f < 10 → V f i = V' f i) : lk_ms σ V T = lk_ms σ V' T := by
  have e : lk_mw V T (σ 1 0) = lk_mw V' T (σ 1 0) := by
    funext i
    simp only [lk_mw]
    rw [h 2 _ (by decide), h 3 _ (by decide), h 4 _ (by decide), h 5 _ (by decide), h 6 _ (by decide), h 7 _ (by decide), h 8 _ (by decide), h 9 _ (by decide), h 1 _ (by decide), h 0 _ (by decide)]
  unfold lk_ms
  rw [e]
theorem lk_ms_12 (σ : lk_N) (V T : lk_O) (v : Int32) : lk_ms σ (lk_ou V 12 0 v) T = lk_ms σ V T := lk_ms_e σ (fun f i hf => lk_ou_ne (by omega))
theorem lk_ms_fl (σ : lk_N) (j : lk_J) (T : lk_O) : lk_ms σ (lk_fl j) T = lk_ms σ j.2.1 T := by
  obtain ⟨_ | q, V, U⟩ := j
  · rfl
  · exact lk_ms_12 σ V T 1
theorem lk_rok_e {V V' : lk_O} (h : ∀ f i, f < 10 → V' f i = V f i) (hr : lk_rok V) : lk_rok V' := fun r h7 => by
  rw [h 6 _ (by decide), h 7 _ (by decide), h 8 _ (by decide)]; exact hr r h7
theorem lk_fl_rok {j : lk_J} (hr : lk_rok j.2.1) : lk_rok (lk_fl j) := by
  obtain ⟨_ | q, V, U⟩ := j
  · exact hr
  · exact lk_rok_e (fun f i hf => lk_ou_ne (by omega)) hr
theorem lk_lsA_o (V : lk_O) {n i : Nat} (h : i ≤ n) : lk_ou (lk_lsA V n (i + 1)) 6 i (if lk_lsA V n (i + 1) 7 i < lk_lsA V n (i + 1) 6 i - lk_lsA V n (i + 1) 9 i then lk_lsA V n (i + 1) 6 i - lk_lsA V n (i + 1) 9 i else lk_lsA V n (i + 1) 7 i) = lk_lsA V n i := by
  funext f j
  simp only [lk_ou, lk_lsA]
  grind (splits := 24)
theorem lk_lsA_t (V : lk_O) (n : Nat) : lk_ou (lk_lsA V n 0) 6 n (if lk_lsA V n 0 6 n + lk_lsA V n 0 1 0 < lk_lsA V n 0 8 n then lk_lsA V n 0 6 n + lk_lsA V n 0 1 0 else lk_lsA V n 0 8 n) = lk_lag V n := by
  rw [lk_lsA_f]; simp [lk_lag]
theorem lk_lsA_i (V : lk_O) (n : Nat) : lk_lsA V n (n + 1) = V := by
  funext f j
  simp only [lk_lsA]
  rw [if_neg (by omega)]
/-- what loses and gains stays within (no reach has too much, no loss is less than nothing) -/
theorem lk_lag_rok {V : lk_O} {n : Nat} (hr : lk_rok V) (hL : ∀ r, r < 7 → 0 ≤ (V 9 r).toInt ∧ 0 ≤ (V 7 r).toInt ∧ (V 8 r).toInt ≤ 9999) (hF : 0 ≤ (V 1 0).toInt ∧ (V 1 0).toInt ≤ 999) (hL9 : ∀ r, r < 7 → (V 9 r).toInt ≤ 99) : lk_rok (lk_lag V n) := by
  intro r h7
  have a := hr r h7
  have a1 := Int32.le_iff_toInt_le.mp a.1
  have a2 := Int32.le_iff_toInt_le.mp a.2
  have b := hL r h7
  have b9 := hL9 r h7
  have e1 := lk_ts (a := V 6 r) (b := V 9 r) rfl rfl (by omega) (by omega) (by omega) (by omega)
  have k1 : ∀ (x : Int32), x = (if V 7 r < V 6 r - V 9 r then V 6 r - V 9 r else V 7 r) → (V 7 r).toInt ≤ x.toInt ∧ x.toInt ≤ (V 8 r).toInt := by
    intro x hx
    subst hx
    split
    · rename_i h
      have := Int32.lt_iff_toInt_lt.mp h
      omega
    · omega
  have key := k1 _ rfl
  by_cases hn : r = n
  · subst hn
    simp only [lk_lag, lk_ou]
    simp
    obtain ⟨x, hx⟩ : ∃ x, x = (if V 7 r < V 6 r - V 9 r then V 6 r - V 9 r else V 7 r) := ⟨_, rfl⟩
    rw [← hx] at key ⊢
    have e2 := lk_ta (a := x) (b := V 1 0) rfl rfl (by omega) (by omega) (by omega) (by omega)
    constructor <;> (apply Int32.le_iff_toInt_le.mpr; split)
    · rw [e2]; omega
    · omega
    · rename_i h
      have := Int32.lt_iff_toInt_lt.mp h
      omega
    · omega
  · simp only [lk_lag, lk_ou]
    by_cases h : r ≤ n
    · simp [hn, h]
      exact ⟨Int32.le_iff_toInt_le.mpr key.1, Int32.le_iff_toInt_le.mpr key.2⟩
    · simp [hn, h]
      exact a
/-- the ranges of a canal's numbers that no passage changes -/
def lk_rg (V : lk_O) : Prop := (∀ r, r < 7 → 0 ≤ (V 9 r).toInt ∧ 0 ≤ (V 7 r).toInt ∧ (V 8 r).toInt ≤ 9999) ∧ (0 ≤ (V 1 0).toInt ∧ (V 1 0).toInt ≤ 999) ∧ ∀ r, r < 7 → (V 9 r).toInt ≤ 99
theorem lk_rg_e {V V' : lk_O} (h : ∀ f i, f < 10 → ¬ f = 6 → ¬ f = 4 → ¬ f = 5 → V' f i = V f i) (hr : lk_rg V) : lk_rg V' := by
  unfold lk_rg at hr ⊢
  refine ⟨fun r h7 => ?_, ?_, fun r h7 => ?_⟩
  · rw [h 9 _ (by decide) (by decide) (by decide) (by decide), h 7 _ (by decide) (by decide) (by decide) (by decide), h 8 _ (by decide) (by decide) (by decide) (by decide)]; exact hr.1 r h7
  · rw [h 1 _ (by decide) (by decide) (by decide) (by decide)]; exact hr.2.1
  · rw [h 9 _ (by decide) (by decide) (by decide) (by decide)]; exact hr.2.2 r h7
theorem lk_near_456 {V V' : lk_O} {k : Nat} (h : lk_near V V' k) (f i : Nat) (h6 : ¬ f = 6) (h4 : ¬ f = 4) (h5 : ¬ f = 5) : V' f i = V f i := h f i (fun z => h6 z.1) (fun z => h4 z.1) (fun z => h5 z.1)
theorem lk_trv_456 {up : Bool} {z : Int32} {n : Nat} (hz : 0 ≤ z.toInt) (hz9 : z.toInt ≤ 9) : ∀ (ks : List Nat) (V T : lk_O), (∀ k ∈ ks, k < n) → lk_cok V n → ∀ f i, ¬ f = 6 → ¬ f = 4 → ¬ f = 5 → (lk_trv up z ks V T).2.2.1 f i = V f i
  | [], V, T, _, h => fun f i _ _ _ => rfl
  | k :: ks, V, T, hk, h => by
    intro f i h6 h4 h5
    unfold lk_trv
    cases hp : lk_pas V k up z with
    | inr q => rfl
    | inl V' =>
      have hkn := hk k List.mem_cons_self
      have hn := (lk_pas_ok hp (h.2.2.2 k (Nat.lt_of_lt_of_le hkn h.2.2.1)) hz hz9).1
      exact (lk_trv_456 (up := up) hz hz9 ks V' _ (fun a ha => hk a (List.mem_cons_of_mem _ ha)) (lk_pas_cok hp hkn h hz hz9) f i h6 h4 h5).trans (lk_near_456 hn f i h6 h4 h5)
theorem lk_lag_456 (V : lk_O) (n : Nat) : ∀ f i, f < 10 → ¬ f = 6 → lk_lag V n f i = V f i := by
  intro f i _ h6
  simp only [lk_lag, lk_ou]
  rw [if_neg (by omega), if_neg (by omega)]
def lk_dgP (t : Nat) (σ W : lk_N) (c : Nat) (j : Option (Nat × Int32 × Nat × Int32)) : Prop :=
  lk_fx [6, 7, 8, 9, 10, 11, 22, 24] σ W ∧ W 1 22 0 = nI c ∧ W 1 24 0 = lk_end (-2) j ∧ lk_kz σ W (if t = 1 then j else none)
theorem lk_kz_no {σ W : lk_N} (h : lk_kz σ W none) {U : lk_N} {o : Option (Nat × Int32 × Nat × Int32)} (g : lk_kz W U o) : lk_kz σ U o := by
  cases o with
  | none => exact ⟨g.1.trans h.1, g.2.trans h.2⟩
  | some q => exact g
theorem lk_day_eq (j : lk_J) {o : Option (Nat × Int32 × Nat × Int32)} (h : j.1 = o) : j = (o, j.2.1, j.2.2) := by rw [← h]
/-- a day keeps what holds of a canal -/
def lk_all (V : lk_O) (n : Nat) : Prop := lk_cok V n ∧ lk_rok V ∧ lk_rg V
theorem lk_all_trv {up : Bool} {z : Int32} {n : Nat} (hz : 0 ≤ z.toInt) (hz9 : z.toInt ≤ 9) (ks : List Nat) (V T : lk_O) (hk : ∀ k ∈ ks, k < n) (h : lk_all V n) : lk_all (lk_trv up z ks V T).2.2.1 n :=
  ⟨(lk_trv_cok hz hz9 ks V T hk h.1).1, lk_trv_ok hz hz9 ks V T hk h.1 h.2.1, lk_rg_e (fun f i _ a b c => lk_trv_456 hz hz9 ks V T hk h.1 f i a b c) h.2.2⟩
theorem lk_all_lag {V : lk_O} {n : Nat} (h : lk_all V n) : lk_all (lk_ou (lk_lag V n) 12 0 0) n := by
  refine ⟨lk_lag_cok h.1, lk_rok_e (fun f i hf => lk_ou_ne (by omega)) (lk_lag_rok h.2.1 h.2.2.1 h.2.2.2.1 h.2.2.2.2), lk_rg_e (V := V) (fun f i hf h6 _ _ => ?_) h.2.2⟩
  rw [lk_ou_ne (by omega)]
  exact lk_lag_456 V n f i hf h6
theorem lk_all_fl {j : lk_J} {n : Nat} (h : lk_all j.2.1 n) : lk_all (lk_fl j) n := by
  obtain ⟨_ | q, V, U⟩ := j
  · exact h
  · exact ⟨lk_eqr_cok (lk_eqr_sy (lk_eqr_12 V 1)) h.1, lk_fl_rok (j := (some q, V, U)) h.2.1, lk_rg_e (fun f i hf _ _ _ => lk_ou_ne (by omega)) h.2.2⟩
theorem lk_all_dyl {n u d : Nat} : ∀ (m a b : Nat) (V T : lk_O), lk_all V n → lk_all (lk_dyl n u d m a b V T).2.2.1 n
  | 0, _, _, V, T, h => h
  | m + 1, a, b, V, T, h => by
    unfold lk_dyl
    have ht := lk_all_trv (up := lk_way u d a b) (z := 0) (by decide) (by decide) (lk_lks (lk_way u d a b) (if lk_way u d a b = true then 0 else n) n) V T (lk_lks_lt (by split <;> omega)) h
    rcases hv : lk_trv (lk_way u d a b) 0 (lk_lks (lk_way u d a b) (if lk_way u d a b = true then 0 else n) n) V T with ⟨i, _ | q, V', T'⟩
    · rw [hv] at ht
      exact lk_all_dyl m _ _ V' T' ht
    · rw [hv] at ht
      exact ht
theorem lk_all_day {V T : lk_O} {n u d : Nat} (h : lk_all V n) : lk_all (lk_day V T n u d).2.2.1 n := lk_all_dyl _ _ _ _ _ (lk_all_lag h)
theorem lk_trv_t {up : Bool} {z : Int32} : ∀ (ks : List Nat) (V T U : lk_O), (lk_trv up z ks V T).1 = (lk_trv up z ks V U).1 ∧ (lk_trv up z ks V T).2.1 = (lk_trv up z ks V U).2.1 ∧ (lk_trv up z ks V T).2.2.1 = (lk_trv up z ks V U).2.2.1
  | [], _, _, _ => ⟨rfl, rfl, rfl⟩
  | k :: ks, V, T, U => by
    unfold lk_trv
    cases hp : lk_pas V k up z with
    | inr q => exact ⟨rfl, rfl, rfl⟩
    | inl V' =>
      have ih := lk_trv_t (up := up) (z := z) ks V' (lk_tad T (V 6 (k + 1) - V' 6 (k + 1))) (lk_tad U (V 6 (k + 1) - V' 6 (k + 1)))
      exact ⟨by show _ + 1 = _ + 1; rw [ih.1], ih.2.1, ih.2.2⟩
theorem lk_trv_t1 {up : Bool} {z : Int32} (ks : List Nat) (V T U : lk_O) : (lk_trv up z ks V T).1 = (lk_trv up z ks V U).1 := (lk_trv_t ks V T U).1
theorem lk_trv_t2 {up : Bool} {z : Int32} (ks : List Nat) (V T U : lk_O) : (lk_trv up z ks V T).2.1 = (lk_trv up z ks V U).2.1 := (lk_trv_t ks V T U).2.1
theorem lk_trv_t3 {up : Bool} {z : Int32} (ks : List Nat) (V T U : lk_O) : (lk_trv up z ks V T).2.2.1 = (lk_trv up z ks V U).2.2.1 := (lk_trv_t ks V T U).2.2
