theorem lk_ms_e (σ : lk_N) {V V' T : lk_O} (h : ∀ f i, f < 10 → V f i = V' f i) : lk_ms σ V T = lk_ms σ V' T := by
  have e : lk_mw V T (σ 1 0) = lk_mw V' T (σ 1 0) := by
    funext i
    simp only [lk_mw]
    rw [h 2 _ (by decide), h 3 _ (by decide), h 4 _ (by decide), h 5 _ (by decide), h 6 _ (by decide), h 7 _ (by decide), h 8 _ (by decide), h 9 _ (by decide), h 1 _ (by decide), h 0 _ (by decide)]
  unfold lk_ms
  rw [e]
theorem lk_ms_12 (σ : lk_N) (V T : lk_O) (v : Int32) : lk_ms σ (lk_ou V 12 0 v) T = lk_ms σ V T := lk_ms_e σ (fun f i hf => lk_ou_ne (by omega))
theorem lk_ms_fl (σ : lk_N) (j : lk_J) (T : lk_O) : lk_ms σ (lk_fl j) T = lk_ms σ j.2.1 T := by
  obtain ⟨_ | q, V, U⟩ := j
  · rfl
  · exact lk_ms_12 σ V T 1
theorem lk_rok_e {V V' : lk_O} (h : ∀ f i, f < 10 → V' f i = V f i) (hr : lk_rok V) : lk_rok V' := fun r h7 => by
  rw [h 6 _ (by decide), h 7 _ (by decide), h 8 _ (by decide)]; exact hr r h7
theorem lk_fl_rok {j : lk_J} (hr : lk_rok j.2.1) : lk_rok (lk_fl j) := by
  obtain ⟨_ | q, V, U⟩ := j
  · exact hr
  · exact lk_rok_e (fun f i hf => lk_ou_ne (by omega)) hr
theorem lk_lsA_o (V : lk_O) {n i : Nat} (h : i ≤ n) : lk_ou (lk_lsA V n (i + 1)) 6 i (if lk_lsA V n (i + 1) 7 i < lk_lsA V n (i + 1) 6 i - lk_lsA V n (i + 1) 9 i then lk_lsA V n (i + 1) 6 i - lk_lsA V n (i + 1) 9 i else lk_lsA V n (i + 1) 7 i) = lk_lsA V n i := by
  funext f j
  simp only [lk_ou, lk_lsA]
  grind (splits := 24)
theorem lk_lsA_t (V : lk_O) (n : Nat) : lk_ou (lk_lsA V n 0) 6 n (if lk_lsA V n 0 6 n + lk_lsA V n 0 1 0 < lk_lsA V n 0 8 n then lk_lsA V n 0 6 n + lk_lsA V n 0 1 0 else lk_lsA V n 0 8 n) = lk_lag V n := by
  rw [lk_lsA_f]; simp [lk_lag]
theorem lk_lsA_i (V : lk_O) (n : Nat) : lk_lsA V n (n + 1) = V := by
  funext f j
  simp only [lk_lsA]
  rw [if_neg (by omega)]
/-- what loses and gains stays within (no reach has too much, no loss is less than nothing) -/
theorem lk_lag_rok {V : lk_O} {n : Nat} (hr : lk_rok V) (hL : ∀ r, r < 7 → 0 ≤ (V 9 r).toInt ∧ 0 ≤ (V 7 r).toInt ∧ (V 8 r).toInt ≤ 9999) (hF : 0 ≤ (V 1 0).toInt ∧ (V 1 0).toInt ≤ 999) (hL9 : ∀ r, r < 7 → (V 9 r).toInt ≤ 99) : lk_rok (lk_lag V n) := by
  intro r h7
  have a := hr r h7
  have a1 := Int32.le_iff_toInt_le.mp a.1
  have a2 := Int32.le_iff_toInt_le.mp a.2
  have b := hL r h7
  have b9 := hL9 r h7
  have e1 := lk_ts (a := V 6 r) (b := V 9 r) rfl rfl (by omega) (by omega) (by omega) (by omega)
  have k1 : ∀ (x : Int32), x = (if V 7 r < V 6 r - V 9 r then V 6 r - V 9 r else V 7 r) → (V 7 r).toInt ≤ x.toInt ∧ x.toInt ≤ (V 8 r).toInt := by
    intro x hx
    subst hx
    split
    · rename_i h
      have := Int32.lt_iff_toInt_lt.mp h
      omega
    · omega
  have key := k1 _ rfl
  by_cases hn : r = n
  · subst hn
    simp only [lk_lag, lk_ou]
    simp
    obtain ⟨x, hx⟩ : ∃ x, x = (if V 7 r < V 6 r - V 9 r then V 6 r - V 9 r else V 7 r) := ⟨_, rfl⟩
    rw [← hx] at key ⊢
    have e2 := lk_ta (a := x) (b := V 1 0) rfl rfl (by omega) (by omega) (by omega) (by omega)
    constructor <;> (apply Int32.le_iff_toInt_le.mpr; split)
    · rw [e2]; omega
    · omega
    · rename_i h
      have := Int32.lt_iff_toInt_lt.mp h
      omega
    · omega
  · simp only [lk_lag, lk_ou]
    by_cases h : r ≤ n
    · simp [hn, h]
      exact ⟨Int32.le_iff_toInt_le.mpr key.1, Int32.le_iff_toInt_le.mpr key.2⟩
    · simp [hn, h]
      exact a
/-- the ranges of a canal's numbers that no passage changes -/
def lk_rg (V : lk_O) : Prop := (∀ r, r < 7 → 0 ≤ (V 9 r).toInt ∧ 0 ≤ (V 7 r).toInt ∧ (V 8 r).toInt ≤ 9999) ∧ (0 ≤ (V 1 0).toInt ∧ (V 1 0).toInt ≤ 999) ∧ ∀ r, r < 7 → (V 9 r).toInt ≤ 99
theorem lk_rg_e {V V' : lk_O} (h : ∀ f i, f < 10 → ¬ f = 6 → ¬ f = 4 → ¬ f = 5 → V' f i = V f i) (hr : lk_rg V) : lk_rg V' := by
  unfold lk_rg at hr ⊢
  refine ⟨fun r h7 => ?_, ?_, fun r h7 => ?_⟩
  · rw [h 9 _ (by decide) (by decide) (by decide) (by decide), h 7 _ (by decide) (by decide) (by decide) (by decide), h 8 _ (by decide) (by decide) (by decide) (by decide)]; exact hr.1 r h7
  · rw [h 1 _ (by decide) (by decide) (by decide) (by decide)]; exact hr.2.1
  · rw [h 9 _ (by decide) (by decide) (by decide) (by decide)]; exact hr.2.2 r h7
theorem lk_near_456 {V V' : lk_O} {k : Nat} (h : lk_near V V' k) (f i : Nat) (h6 : ¬ f = 6) (h4 : ¬ f = 4) (h5 : ¬ f = 5) : V' f i = V f i := h f i (fun z => h6 z.1) (fun z => h4 z.1) (fun z => h5 z.1)
theorem lk_trv_456 {up : Bool} {z : Int32} {n : Nat} (hz : 0 ≤ z.toInt) (hz9 : z.toInt ≤ 9) : ∀ (ks : List Nat) (V T : lk_O), (∀ k ∈ ks, k < n) → lk_cok V n → ∀ f i, ¬ f = 6 → ¬ f = 4 → ¬ f = 5 → (lk_trv up z ks V T).2.2.1 f i = V f i
  | [], V, T, _, h => fun f i _ _ _ => rfl
  | k :: ks, V, T, hk, h => by
    intro f i h6 h4 h5
    unfold lk_trv
    cases hp : lk_pas V k up z with
    | inr q => rfl
    | inl V' =>
      have hkn := hk k List.mem_cons_self
      have hn := (lk_pas_ok hp (h.2.2.2 k (Nat.lt_of_lt_of_le hkn h.2.2.1)) hz hz9).1
      exact (lk_trv_456 (up := up) hz hz9 ks V' _ (fun a ha => hk a (List.mem_cons_of_mem _ ha)) (lk_pas_cok hp hkn h hz hz9) f i h6 h4 h5).trans (lk_near_456 hn f i h6 h4 h5)
theorem lk_lag_456 (V : lk_O) (n : Nat) : ∀ f i, f < 10 → ¬ f = 6 → lk_lag V n f i = V f i := by
  intro f i _ h6
  simp only [lk_lag, lk_ou]
  rw [if_neg (by omega), if_neg (by omega)]
def lk_dgP (t : Nat) (σ W : lk_N) (c : Nat) (j : Option (Nat × Int32 × Nat × Int32)) : Prop :=
  lk_fx [6, 7, 8, 9, 10, 11, 22, 24] σ W ∧ W 1 22 0 = nI c ∧ W 1 24 0 = lk_end (-2) j ∧ lk_kz σ W (if t = 1 then j else none)
theorem lk_kz_no {σ W : lk_N} (h : lk_kz σ W none) {U : lk_N} {o : Option (Nat × Int32 × Nat × Int32)} (g : lk_kz W U o) : lk_kz σ U o := by
  cases o with
  | none => exact ⟨g.1.trans h.1, g.2.trans h.2⟩
  | some q => exact g
theorem lk_day_eq (j : lk_J) {o : Option (Nat × Int32 × Nat × Int32)} (h : j.1 = o) : j = (o, j.2.1, j.2.2) := by rw [← h]
/-- a day keeps what holds of a canal -/
def lk_all (V : lk_O) (n : Nat) : Prop := lk_cok V n ∧ lk_rok V ∧ lk_rg V
theorem lk_all_trv {up : Bool} {z : Int32} {n : Nat} (hz : 0 ≤ z.toInt) (hz9 : z.toInt ≤ 9) (ks : List Nat) (V T : lk_O) (hk : ∀ k ∈ ks, k < n) (h : lk_all V n) : lk_all (lk_trv up z ks V T).2.2.1 n :=
  ⟨(lk_trv_cok hz hz9 ks V T hk h.1).1, lk_trv_ok hz hz9 ks V T hk h.1 h.2.1, lk_rg_e (fun f i _ a b c => lk_trv_456 hz hz9 ks V T hk h.1 f i a b c) h.2.2⟩
theorem lk_all_lag {V : lk_O} {n : Nat} (h : lk_all V n) : lk_all (lk_ou (lk_lag V n) 12 0 0) n := by
  refine ⟨lk_lag_cok h.1, lk_rok_e (fun f i hf => lk_ou_ne (by omega)) (lk_lag_rok h.2.1 h.2.2.1 h.2.2.2.1 h.2.2.2.2), lk_rg_e (V := V) (fun f i hf h6 _ _ => ?_) h.2.2⟩
  rw [lk_ou_ne (by omega)]
  exact lk_lag_456 V n f i hf h6
theorem lk_all_fl {j : lk_J} {n : Nat} (h : lk_all j.2.1 n) : lk_all (lk_fl j) n := by
  obtain ⟨_ | q, V, U⟩ := j
  · exact h
  · exact ⟨lk_eqr_cok (lk_eqr_sy (lk_eqr_12 V 1)) h.1, lk_fl_rok (j := (some q, V, U)) h.2.1, lk_rg_e (fun f i hf _ _ _ => lk_ou_ne (by omega)) h.2.2⟩
theorem lk_all_dyl {n u d : Nat} : ∀ (m a b : Nat) (V T : lk_O), lk_all V n → lk_all (lk_dyl n u d m a b V T).2.2.1 n
  | 0, _, _, V, T, h => h
  | m + 1, a, b, V, T, h => by
    unfold lk_dyl
    have ht := lk_all_trv (up := lk_way u d a b) (z := 0) (by decide) (by decide) (lk_lks (lk_way u d a b) (if lk_way u d a b = true then 0 else n) n) V T (lk_lks_lt (by split <;> omega)) h
    rcases hv : lk_trv (lk_way u d a b) 0 (lk_lks (lk_way u d a b) (if lk_way u d a b = true then 0 else n) n) V T with ⟨i, _ | q, V', T'⟩
    · rw [hv] at ht
      exact lk_all_dyl m _ _ V' T' ht
    · rw [hv] at ht
      exact ht
theorem lk_all_day {V T : lk_O} {n u d : Nat} (h : lk_all V n) : lk_all (lk_day V T n u d).2.2.1 n := lk_all_dyl _ _ _ _ _ (lk_all_lag h)
theorem lk_trv_t {up : Bool} {z : Int32} : ∀ (ks : List Nat) (V T U : lk_O), (lk_trv up z ks V T).1 = (lk_trv up z ks V U).1 ∧ (lk_trv up z ks V T).2.1 = (lk_trv up z ks V U).2.1 ∧ (lk_trv up z ks V T).2.2.1 = (lk_trv up z ks V U).2.2.1
  | [], _, _, _ => ⟨rfl, rfl, rfl⟩
  | k :: ks, V, T, U => by
    unfold lk_trv
    cases hp : lk_pas V k up z with
    | inr q => exact ⟨rfl, rfl, rfl⟩
    | inl V' =>
      have ih := lk_trv_t (up := up) (z := z) ks V' (lk_tad T (V 6 (k + 1) - V' 6 (k + 1))) (lk_tad U (V 6 (k + 1) - V' 6 (k + 1)))
      exact ⟨by show _ + 1 = _ + 1; rw [ih.1], ih.2.1, ih.2.2⟩
theorem lk_trv_t1 {up : Bool} {z : Int32} (ks : List Nat) (V T U : lk_O) : (lk_trv up z ks V T).1 = (lk_trv up z ks V U).1 := (lk_trv_t ks V T U).1
theorem lk_trv_t2 {up : Bool} {z : Int32} (ks : List Nat) (V T U : lk_O) : (lk_trv up z ks V T).2.1 = (lk_trv up z ks V U).2.1 := (lk_trv_t ks V T U).2.1
theorem lk_trv_t3 {up : Bool} {z : Int32} (ks : List Nat) (V T U : lk_O) : (lk_trv up z ks V T).2.2.1 = (lk_trv up z ks V U).2.2.1 := (lk_trv_t ks V T U).2.2
set_option maxHeartbeats 1000000 in
set_option maxRecDepth 100000 in
theorem tX9_dayGoes1 (l : Launch) (X : lk_G) (d : Nat) (σ : lk_N) (τ : lk_T) (V T : lk_O) (n u e : Nat) (ha0 : lk_all V n) (hu : u ≤ 4) (he : e ≤ 4) : lk_Mt l X mX9_dayGoes (d + 5) [lk_vr 1 0, lk_vi (nI (u)), lk_vi (nI (e)), lk_vi 1] (lk_ms σ V T) τ (fun rr σ1 τ1 => rr = none ∧ τ1 = τ ∧ ∃ W : lk_N, σ1 = lk_ms W (lk_day V T n u e).2.2.1 (lk_day V T n u e).2.2.2 ∧ lk_dgP 1 σ W (lk_day V T n u e).1 (lk_day V T n u e).2.1) := by
  refine lk_met (L := [(0, lk_vr 1 0), (1, lk_vi (nI (u))), (2, lk_vi (nI (e))), (3, lk_vi 1)]) (by decide +kernel) (Nat.le_of_ble_eq_true rfl) rfl ?_
  obtain ⟨Q, hQ⟩ : ∃ Q : lk_Q, Q = fun rr σ1 τ1 => rr = none ∧ τ1 = τ ∧ ∃ W : lk_N, σ1 = lk_ms W (lk_day V T n u e).2.2.1 (lk_day V T n u e).2.2.2 ∧ lk_dgP 1 σ W (lk_day V T n u e).1 (lk_day V T n u e).2.1 := ⟨_, rfl⟩
  rw [← hQ]
  have hn6 := ha0.1.2.2.1
  refine lk_aload_n dX9_dayGoes_0 rfl rfl ?_
  refine lk_getR (f := 0) dX9_dayGoes_1 rfl fX9_9 (by decide) (by decide) ?_
  refine lk_bipush (v := 53) dX9_dayGoes_4 (by decide) ?_
  refine lk_ialdN (f := 0) (i := 53) dX9_dayGoes_6 rfl (by decide) rfl (by omega) (by decide) ?_
  refine lk_eqtop (y := (nI (n))) ((lk_r0 rfl rfl).trans ha0.1.1) ?_
  refine lk_istore (L' := [(0, lk_vr 1 0), (1, lk_vi (nI (u))), (2, lk_vi (nI (e))), (3, lk_vi 1), (4, lk_vi (nI (n)))]) dX9_dayGoes_7 (by decide +kernel) rfl ?_
  refine lk_aload_n dX9_dayGoes_9 rfl rfl ?_
  refine lk_iconst (v := 0) dX9_dayGoes_10 (by decide) ?_
  refine lk_putI (f := 22) dX9_dayGoes_11 rfl fX9_196 (by decide) (by decide) ?_
  refine lk_sg (σ' := (lk_ms (lk_up σ 1 22 0 0) V T)) (lk_wf (by decide)) ?_
  refine lk_aload_n dX9_dayGoes_14 rfl rfl ?_
  refine lk_bipush (v := (-2)) dX9_dayGoes_15 (by decide) ?_
  refine lk_putI (f := 24) dX9_dayGoes_17 rfl fX9_209 (by decide) (by decide) ?_
  refine lk_sg (σ' := (lk_ms (lk_up (lk_up σ 1 22 0 0) 1 24 0 (-2)) V T)) (lk_wf (by decide)) ?_
  refine lk_iload dX9_dayGoes_20 rfl ?_
  refine lk_istore (L' := [(0, lk_vr 1 0), (1, lk_vi (nI (u))), (2, lk_vi (nI (e))), (3, lk_vi 1), (4, lk_vi (nI (n))), (5, lk_vi (nI (n)))]) dX9_dayGoes_22 (by decide +kernel) rfl ?_
  have LP24 : ∀ (fu : Nat) (i : Nat) (x : Int32), i ≤ n + 1 → x = nI i - 1 → i < fu → lk_W l X mX9_dayGoes (d + 5) 24 [(0, lk_vr 1 0), (1, lk_vi (nI (u))), (2, lk_vi (nI (e))), (3, lk_vi 1), (4, lk_vi (nI (n))), (5, lk_vi (x))] [] (lk_ms (lk_up (lk_up σ 1 22 0 0) 1 24 0 (-2)) (lk_lsA V n i) T) τ Q := by
    intro fu
    induction fu with
    | zero => intro i x hi hx hfu; exact absurd hfu (by omega)
    | succ fu ih =>
      intro i x hi hx hfu
      refine lk_iload dX9_dayGoes_24 rfl ?_
      subst hx
      rcases i with _ | i
      ·
        refine lk_if_lt (tgt := 79) dX9_dayGoes_26 (by decide) (fun hh1 => ?_) (fun hh1 => absurd hh1 (by intro q; exact q (by decide)))
        refine lk_aload_n dX9_dayGoes_79 rfl rfl ?_
        refine lk_getR (f := 0) dX9_dayGoes_80 rfl fX9_9 (by decide) (by decide) ?_
        refine lk_bipush (v := 24) dX9_dayGoes_83 (by decide) ?_
        refine lk_iload dX9_dayGoes_85 rfl ?_
        refine lk_iaddN (a := 24) (b := n) dX9_dayGoes_87 ?_
        refine lk_aload_n dX9_dayGoes_88 rfl rfl ?_
        refine lk_getR (f := 0) dX9_dayGoes_89 rfl fX9_9 (by decide) (by decide) ?_
        refine lk_bipush (v := 38) dX9_dayGoes_92 (by decide) ?_
        refine lk_iload dX9_dayGoes_94 rfl ?_
        refine lk_iaddN (a := 38) (b := n) dX9_dayGoes_96 ?_
        refine lk_ialdN (f := 0) (i := 38 + n) dX9_dayGoes_97 rfl (by decide) rfl (by omega) (by decide) ?_
        refine lk_eqtop (y := ((lk_lsA V n 0) 8 (n))) (lk_r8 (by omega) (by omega)) ?_
        refine lk_aload_n dX9_dayGoes_98 rfl rfl ?_
        refine lk_getR (f := 0) dX9_dayGoes_99 rfl fX9_9 (by decide) (by decide) ?_
        refine lk_bipush (v := 24) dX9_dayGoes_102 (by decide) ?_
        refine lk_iload dX9_dayGoes_104 rfl ?_
        refine lk_iaddN (a := 24) (b := n) dX9_dayGoes_106 ?_
        refine lk_ialdN (f := 0) (i := 24 + n) dX9_dayGoes_107 rfl (by decide) rfl (by omega) (by decide) ?_
        refine lk_eqtop (y := ((lk_lsA V n 0) 6 (n))) (lk_r6 (by omega) (by omega)) ?_
        refine lk_aload_n dX9_dayGoes_108 rfl rfl ?_
        refine lk_getR (f := 0) dX9_dayGoes_109 rfl fX9_9 (by decide) (by decide) ?_
        refine lk_bipush (v := 52) dX9_dayGoes_112 (by decide) ?_
        refine lk_ialdN (f := 0) (i := 52) dX9_dayGoes_114 rfl (by decide) rfl (by omega) (by decide) ?_
        refine lk_eqtop (y := ((lk_lsA V n 0) 1 (0))) (lk_r1 (by omega) (by omega)) ?_
        refine lk_iadd dX9_dayGoes_115 ?_
        refine lk_mmin dX9_dayGoes_116 lX9_177 (Nat.le_of_ble_eq_true rfl) ?_
        refine lk_iastN (f := 0) (i := 24 + n) (v := (if (((lk_lsA V n 0) 6 (n)) + ((lk_lsA V n 0) 1 (0))) < ((lk_lsA V n 0) 8 (n)) then (((lk_lsA V n 0) 6 (n)) + ((lk_lsA V n 0) 1 (0))) else ((lk_lsA V n 0) 8 (n)))) dX9_dayGoes_119 rfl (by decide) rfl (by omega) (by decide) ?_
        refine lk_sg (σ' := (lk_ms (lk_up (lk_up σ 1 22 0 0) 1 24 0 (-2)) (lk_ou (lk_lsA V n 0) 6 (n) (if (((lk_lsA V n 0) 6 (n)) + ((lk_lsA V n 0) 1 (0))) < ((lk_lsA V n 0) 8 (n)) then (((lk_lsA V n 0) 6 (n)) + ((lk_lsA V n 0) 1 (0))) else ((lk_lsA V n 0) 8 (n)))) T)) (lk_w6 (by omega) (by omega)) ?_
        refine lk_iload_n dX9_dayGoes_120 rfl rfl ?_
        refine lk_istore (L' := [(0, lk_vr 1 0), (1, lk_vi (nI (u))), (2, lk_vi (nI (e))), (3, lk_vi 1), (4, lk_vi (nI (n))), (5, lk_vi (nI (u)))]) dX9_dayGoes_121 (by decide +kernel) rfl ?_
        refine lk_iload_n dX9_dayGoes_123 rfl rfl ?_
        refine lk_istore (L' := [(0, lk_vr 1 0), (1, lk_vi (nI (u))), (2, lk_vi (nI (e))), (3, lk_vi 1), (4, lk_vi (nI (n))), (5, lk_vi (nI (u))), (6, lk_vi (nI (e)))]) dX9_dayGoes_124 (by decide +kernel) rfl ?_
        refine lk_iconst (v := 1) dX9_dayGoes_126 (by decide) ?_
        refine lk_istore (L' := [(0, lk_vr 1 0), (1, lk_vi (nI (u))), (2, lk_vi (nI (e))), (3, lk_vi 1), (4, lk_vi (nI (n))), (5, lk_vi (nI (u))), (6, lk_vi (nI (e))), (7, lk_vi 1)]) dX9_dayGoes_127 (by decide +kernel) rfl ?_
        have LP129 : ∀ (fu : Nat) (x y p c : Nat) (W : lk_N) (V1 U1 : lk_O), x ≤ u → y ≤ e → (x = 0 ∨ y = 0 ∨ (p = 1 ∧ u - x = e - y) ∨ (p = 0 ∧ u - x = e - y + 1)) → lk_all V1 n → lk_fx [6, 7, 8, 9, 10, 11, 22, 24] σ W → W 1 22 0 = nI c → W 1 24 0 = -2 → lk_kz σ W none → lk_day V T n u e = lk_dfi n u e (x + y) (u - x) (e - y) c (none, V1, U1) → x + y < fu → lk_W l X mX9_dayGoes (d + 5) 129 [(0, lk_vr 1 0), (1, lk_vi (nI (u))), (2, lk_vi (nI (e))), (3, lk_vi 1), (4, lk_vi (nI (n))), (5, lk_vi (nI (x))), (6, lk_vi (nI (y))), (7, lk_vi (nI (p)))] [] (lk_ms W V1 U1) τ Q := by
          intro fu
          induction fu with
          | zero => intro x y p c W V1 U1 hx hy hp ha hWf hW2c hW4 hWk hI hfu; exact absurd hfu (by omega)
          | succ fu ih =>
            intro x y p c W V1 U1 hx hy hp ha hWf hW2c hW4 hWk hI hfu
            refine lk_iload dX9_dayGoes_129 rfl ?_
            refine lk_if_gtN (a := x) (tgt := 139) dX9_dayGoes_131 (by decide) (by omega) (fun hh2 => ?_) (fun hh2 => ?_)
            ·
              refine lk_iload dX9_dayGoes_139 rfl ?_
              refine lk_if_eqN (a := y) (tgt := 154) dX9_dayGoes_141 (by decide) (by omega) (fun hh3 => ?_) (fun hh3 => ?_)
              ·
                refine lk_iconst (v := 1) dX9_dayGoes_154 (by decide) ?_
                refine lk_goto (tgt := 159) dX9_dayGoes_155 (by decide) ?_
                refine lk_istore (L' := [(0, lk_vr 1 0), (1, lk_vi (nI (u))), (2, lk_vi (nI (e))), (3, lk_vi 1), (4, lk_vi (nI (n))), (5, lk_vi (nI (x))), (6, lk_vi (nI (y))), (7, lk_vi (nI (p))), (8, lk_vi 1)]) dX9_dayGoes_159 (by decide +kernel) rfl ?_
                refine lk_aload_n dX9_dayGoes_161 rfl rfl ?_
                refine lk_iload dX9_dayGoes_162 rfl ?_
                refine lk_iload_n dX9_dayGoes_164 rfl rfl ?_
                have hw : lk_way u e (u - x) (e - y) = true := by simp [lk_way]; omega
                have hm : x + y = (x + y - 1) + 1 := by omega
                rcases hj : (lk_trv true 0 (lk_lks true 0 n) V1 U1).2.1 with _ | kq
                ·
                  refine lk_callV (o := 1) (as := [lk_vi 1, lk_vi 1]) (S := []) dX9_dayGoes_165 rfl vX9_crosses rfl lX9_215 rfl rfl (Nat.le_of_ble_eq_true rfl) (tX9_crosses_up1 l X d W τ (V := V1) (T := U1) (n := n) (hV := ha.1) (hr := ha.2.1)) ?_
                  refine lk_k4 (fun W2 hW2 => ?_)
                  refine lk_cast (pc' := 168) (S' := [lk_vi (lk_jb (lk_trv true 0 (lk_lks true 0 n) V1 U1).2.1)]) rfl rfl rfl ?_
                  refine lk_eqtop (y := 1) (by rw [hj]; rfl) ?_
                  refine lk_sg (σ' := (lk_ms W2 (lk_trv true 0 (lk_lks true 0 n) V1 U1).2.2.1 (lk_trv true 0 (lk_lks true 0 n) V1 U1).2.2.2)) rfl ?_
                  refine lk_if_ne (tgt := 172) dX9_dayGoes_168 (by decide) (fun hh4 => ?_) (fun hh4 => absurd hh4 (by decide))
                  refine lk_iload dX9_dayGoes_172 rfl ?_
                  refine lk_if_eq (tgt := 183) dX9_dayGoes_174 (by decide) (fun hh5 => absurd hh5 (by decide)) (fun hh5 => ?_)
                  refine lk_idecN (a := x) (m := 1) (L' := [(0, lk_vr 1 0), (1, lk_vi (nI (u))), (2, lk_vi (nI (e))), (3, lk_vi 1), (4, lk_vi (nI (n))), (5, lk_vi (nI (x - 1))), (6, lk_vi (nI (y))), (7, lk_vi (nI (p))), (8, lk_vi 1)]) dX9_dayGoes_177 rfl rfl (by omega) (by decide +kernel) rfl ?_
                  refine lk_goto (tgt := 186) dX9_dayGoes_180 (by decide) ?_
                  refine lk_iload dX9_dayGoes_186 rfl ?_
                  refine lk_if_ne (tgt := 195) dX9_dayGoes_188 (by decide) (fun hh6 => ?_) (fun hh6 => absurd hh6 (by decide))
                  refine lk_iconst (v := 0) dX9_dayGoes_195 (by decide) ?_
                  refine lk_istore (L' := [(0, lk_vr 1 0), (1, lk_vi (nI (u))), (2, lk_vi (nI (e))), (3, lk_vi 1), (4, lk_vi (nI (n))), (5, lk_vi (nI (x - 1))), (6, lk_vi (nI (y))), (7, lk_vi 0), (8, lk_vi 1)]) dX9_dayGoes_196 (by decide +kernel) rfl ?_
                  refine lk_goto (tgt := 129) dX9_dayGoes_198 (by decide) ?_
                  refine lk_sub (L' := [(0, lk_vr 1 0), (1, lk_vi (nI (u))), (2, lk_vi (nI (e))), (3, lk_vi 1), (4, lk_vi (nI (n))), (5, lk_vi (nI (x - 1))), (6, lk_vi (nI (y))), (7, lk_vi 0)]) [0, 1, 2, 3, 4, 5, 6, 7] rfl ?_
                  obtain ⟨f1, f2, f3, f4⟩ := hW2
                  rw [hj] at f3 f4
                  have hq := lk_all_trv (up := true) (z := 0) (by decide) (by decide) (lk_lks true 0 n) V1 U1 (lk_lks_lt (by omega)) ha
                  rw [hm, lk_dfi_u n u e _ (u - x) (e - y) c V1 U1 hw, lk_day_eq _ hj] at hI
                  exact ih (x - 1) y 0 (c + (lk_trv true 0 (lk_lks true 0 n) V1 U1).1) W2 (lk_trv true 0 (lk_lks true 0 n) V1 U1).2.2.1 (lk_trv true 0 (lk_lks true 0 n) V1 U1).2.2.2 (by omega) (by omega) (by omega) hq (lk_fx_tr hWf f1) (by rw [f2, hW2c]; exact nI_add _ _) (f3.trans hW4) (lk_kz_no hWk (by simpa using f4)) (by rw [hI]; congr 1 <;> omega) (by omega)
                ·
                  refine lk_callV (o := 1) (as := [lk_vi 1, lk_vi 1]) (S := []) dX9_dayGoes_165 rfl vX9_crosses rfl lX9_215 rfl rfl (Nat.le_of_ble_eq_true rfl) (tX9_crosses_up1 l X d W τ (V := V1) (T := U1) (n := n) (hV := ha.1) (hr := ha.2.1)) ?_
                  refine lk_k4 (fun W3 hW3 => ?_)
                  refine lk_cast (pc' := 168) (S' := [lk_vi (lk_jb (lk_trv true 0 (lk_lks true 0 n) V1 U1).2.1)]) rfl rfl rfl ?_
                  refine lk_eqtop (y := 0) (by rw [hj]; rfl) ?_
                  refine lk_sg (σ' := (lk_ms W3 (lk_trv true 0 (lk_lks true 0 n) V1 U1).2.2.1 (lk_trv true 0 (lk_lks true 0 n) V1 U1).2.2.2)) rfl ?_
                  refine lk_if_ne (tgt := 172) dX9_dayGoes_168 (by decide) (fun hh7 => absurd hh7 (by decide)) (fun hh7 => ?_)
                  refine lk_vret dX9_dayGoes_171 rfl ?_
                  rw [hQ]
                  obtain ⟨f1, f2, f3, f4⟩ := hW3
                  rw [hj] at f3 f4
                  rw [hm, lk_dfi_u n u e _ (u - x) (e - y) c V1 U1 hw, lk_day_eq _ hj, lk_dfi_b] at hI
                  rw [hI]
                  exact ⟨rfl, rfl, W3, rfl, lk_fx_tr hWf f1, by rw [f2, hW2c]; exact nI_add _ _, f3, lk_kz_no hWk (by simpa using f4)⟩
              ·
                refine lk_iload dX9_dayGoes_144 rfl ?_
                refine lk_if_leN (a := x) (tgt := 158) dX9_dayGoes_146 (by decide) (by omega) (fun hh8 => ?_) (fun hh8 => ?_)
                ·
                  refine lk_iconst (v := 0) dX9_dayGoes_158 (by decide) ?_
                  refine lk_istore (L' := [(0, lk_vr 1 0), (1, lk_vi (nI (u))), (2, lk_vi (nI (e))), (3, lk_vi 1), (4, lk_vi (nI (n))), (5, lk_vi (nI (x))), (6, lk_vi (nI (y))), (7, lk_vi (nI (p))), (8, lk_vi 0)]) dX9_dayGoes_159 (by decide +kernel) rfl ?_
                  refine lk_aload_n dX9_dayGoes_161 rfl rfl ?_
                  refine lk_iload dX9_dayGoes_162 rfl ?_
                  refine lk_iload_n dX9_dayGoes_164 rfl rfl ?_
                  have hw : lk_way u e (u - x) (e - y) = false := by simp [lk_way]; omega
                  have hm : x + y = (x + y - 1) + 1 := by omega
                  rcases hj : (lk_trv false 0 (lk_lks false n n) V1 U1).2.1 with _ | kq
                  ·
                    refine lk_callV (o := 1) (as := [lk_vi 0, lk_vi 1]) (S := []) dX9_dayGoes_165 rfl vX9_crosses rfl lX9_215 rfl rfl (Nat.le_of_ble_eq_true rfl) (tX9_crosses_dn1 l X d W τ (V := V1) (T := U1) (n := n) (hV := ha.1) (hr := ha.2.1)) ?_
                    refine lk_k4 (fun W2 hW2 => ?_)
                    refine lk_cast (pc' := 168) (S' := [lk_vi (lk_jb (lk_trv false 0 (lk_lks false n n) V1 U1).2.1)]) rfl rfl rfl ?_
                    refine lk_eqtop (y := 1) (by rw [hj]; rfl) ?_
                    refine lk_sg (σ' := (lk_ms W2 (lk_trv false 0 (lk_lks false n n) V1 U1).2.2.1 (lk_trv false 0 (lk_lks false n n) V1 U1).2.2.2)) rfl ?_
                    refine lk_if_ne (tgt := 172) dX9_dayGoes_168 (by decide) (fun hh9 => ?_) (fun hh9 => absurd hh9 (by decide))
                    refine lk_iload dX9_dayGoes_172 rfl ?_
                    refine lk_if_eq (tgt := 183) dX9_dayGoes_174 (by decide) (fun hh10 => ?_) (fun hh10 => absurd hh10 (by decide))
                    refine lk_idecN (a := y) (m := 1) (L' := [(0, lk_vr 1 0), (1, lk_vi (nI (u))), (2, lk_vi (nI (e))), (3, lk_vi 1), (4, lk_vi (nI (n))), (5, lk_vi (nI (x))), (6, lk_vi (nI (y - 1))), (7, lk_vi (nI (p))), (8, lk_vi 0)]) dX9_dayGoes_183 rfl rfl (by omega) (by decide +kernel) rfl ?_
                    refine lk_iload dX9_dayGoes_186 rfl ?_
                    refine lk_if_ne (tgt := 195) dX9_dayGoes_188 (by decide) (fun hh11 => absurd hh11 (by decide)) (fun hh11 => ?_)
                    refine lk_iconst (v := 1) dX9_dayGoes_191 (by decide) ?_
                    refine lk_goto (tgt := 196) dX9_dayGoes_192 (by decide) ?_
                    refine lk_istore (L' := [(0, lk_vr 1 0), (1, lk_vi (nI (u))), (2, lk_vi (nI (e))), (3, lk_vi 1), (4, lk_vi (nI (n))), (5, lk_vi (nI (x))), (6, lk_vi (nI (y - 1))), (7, lk_vi 1), (8, lk_vi 0)]) dX9_dayGoes_196 (by decide +kernel) rfl ?_
                    refine lk_goto (tgt := 129) dX9_dayGoes_198 (by decide) ?_
                    refine lk_sub (L' := [(0, lk_vr 1 0), (1, lk_vi (nI (u))), (2, lk_vi (nI (e))), (3, lk_vi 1), (4, lk_vi (nI (n))), (5, lk_vi (nI (x))), (6, lk_vi (nI (y - 1))), (7, lk_vi 1)]) [0, 1, 2, 3, 4, 5, 6, 7] rfl ?_
                    obtain ⟨f1, f2, f3, f4⟩ := hW2
                    rw [hj] at f3 f4
                    have hq := lk_all_trv (up := false) (z := 0) (by decide) (by decide) (lk_lks false n n) V1 U1 (lk_lks_lt (by omega)) ha
                    rw [hm, lk_dfi_d n u e _ (u - x) (e - y) c V1 U1 hw, lk_day_eq _ hj] at hI
                    exact ih x (y - 1) 1 (c + (lk_trv false 0 (lk_lks false n n) V1 U1).1) W2 (lk_trv false 0 (lk_lks false n n) V1 U1).2.2.1 (lk_trv false 0 (lk_lks false n n) V1 U1).2.2.2 (by omega) (by omega) (by omega) hq (lk_fx_tr hWf f1) (by rw [f2, hW2c]; exact nI_add _ _) (f3.trans hW4) (lk_kz_no hWk (by simpa using f4)) (by rw [hI]; congr 1 <;> omega) (by omega)
                  ·
                    refine lk_callV (o := 1) (as := [lk_vi 0, lk_vi 1]) (S := []) dX9_dayGoes_165 rfl vX9_crosses rfl lX9_215 rfl rfl (Nat.le_of_ble_eq_true rfl) (tX9_crosses_dn1 l X d W τ (V := V1) (T := U1) (n := n) (hV := ha.1) (hr := ha.2.1)) ?_
                    refine lk_k4 (fun W3 hW3 => ?_)
                    refine lk_cast (pc' := 168) (S' := [lk_vi (lk_jb (lk_trv false 0 (lk_lks false n n) V1 U1).2.1)]) rfl rfl rfl ?_
                    refine lk_eqtop (y := 0) (by rw [hj]; rfl) ?_
                    refine lk_sg (σ' := (lk_ms W3 (lk_trv false 0 (lk_lks false n n) V1 U1).2.2.1 (lk_trv false 0 (lk_lks false n n) V1 U1).2.2.2)) rfl ?_
                    refine lk_if_ne (tgt := 172) dX9_dayGoes_168 (by decide) (fun hh12 => absurd hh12 (by decide)) (fun hh12 => ?_)
                    refine lk_vret dX9_dayGoes_171 rfl ?_
                    rw [hQ]
                    obtain ⟨f1, f2, f3, f4⟩ := hW3
                    rw [hj] at f3 f4
                    rw [hm, lk_dfi_d n u e _ (u - x) (e - y) c V1 U1 hw, lk_day_eq _ hj, lk_dfi_b] at hI
                    rw [hI]
                    exact ⟨rfl, rfl, W3, rfl, lk_fx_tr hWf f1, by rw [f2, hW2c]; exact nI_add _ _, f3, lk_kz_no hWk (by simpa using f4)⟩
                ·
                  refine lk_iload dX9_dayGoes_149 rfl ?_
                  refine lk_if_eqN (a := p) (tgt := 158) dX9_dayGoes_151 (by decide) (by omega) (fun hh13 => ?_) (fun hh13 => ?_)
                  ·
                    refine lk_iconst (v := 0) dX9_dayGoes_158 (by decide) ?_
                    refine lk_istore (L' := [(0, lk_vr 1 0), (1, lk_vi (nI (u))), (2, lk_vi (nI (e))), (3, lk_vi 1), (4, lk_vi (nI (n))), (5, lk_vi (nI (x))), (6, lk_vi (nI (y))), (7, lk_vi (nI (p))), (8, lk_vi 0)]) dX9_dayGoes_159 (by decide +kernel) rfl ?_
                    refine lk_aload_n dX9_dayGoes_161 rfl rfl ?_
                    refine lk_iload dX9_dayGoes_162 rfl ?_
                    refine lk_iload_n dX9_dayGoes_164 rfl rfl ?_
                    have hw : lk_way u e (u - x) (e - y) = false := by simp [lk_way]; omega
                    have hm : x + y = (x + y - 1) + 1 := by omega
                    rcases hj : (lk_trv false 0 (lk_lks false n n) V1 U1).2.1 with _ | kq
                    ·
                      refine lk_callV (o := 1) (as := [lk_vi 0, lk_vi 1]) (S := []) dX9_dayGoes_165 rfl vX9_crosses rfl lX9_215 rfl rfl (Nat.le_of_ble_eq_true rfl) (tX9_crosses_dn1 l X d W τ (V := V1) (T := U1) (n := n) (hV := ha.1) (hr := ha.2.1)) ?_
                      refine lk_k4 (fun W2 hW2 => ?_)
                      refine lk_cast (pc' := 168) (S' := [lk_vi (lk_jb (lk_trv false 0 (lk_lks false n n) V1 U1).2.1)]) rfl rfl rfl ?_
                      refine lk_eqtop (y := 1) (by rw [hj]; rfl) ?_
                      refine lk_sg (σ' := (lk_ms W2 (lk_trv false 0 (lk_lks false n n) V1 U1).2.2.1 (lk_trv false 0 (lk_lks false n n) V1 U1).2.2.2)) rfl ?_
                      refine lk_if_ne (tgt := 172) dX9_dayGoes_168 (by decide) (fun hh14 => ?_) (fun hh14 => absurd hh14 (by decide))
                      refine lk_iload dX9_dayGoes_172 rfl ?_
                      refine lk_if_eq (tgt := 183) dX9_dayGoes_174 (by decide) (fun hh15 => ?_) (fun hh15 => absurd hh15 (by decide))
                      refine lk_idecN (a := y) (m := 1) (L' := [(0, lk_vr 1 0), (1, lk_vi (nI (u))), (2, lk_vi (nI (e))), (3, lk_vi 1), (4, lk_vi (nI (n))), (5, lk_vi (nI (x))), (6, lk_vi (nI (y - 1))), (7, lk_vi (nI (p))), (8, lk_vi 0)]) dX9_dayGoes_183 rfl rfl (by omega) (by decide +kernel) rfl ?_
                      refine lk_iload dX9_dayGoes_186 rfl ?_
                      refine lk_if_ne (tgt := 195) dX9_dayGoes_188 (by decide) (fun hh16 => absurd hh16 (by decide)) (fun hh16 => ?_)
                      refine lk_iconst (v := 1) dX9_dayGoes_191 (by decide) ?_
                      refine lk_goto (tgt := 196) dX9_dayGoes_192 (by decide) ?_
                      refine lk_istore (L' := [(0, lk_vr 1 0), (1, lk_vi (nI (u))), (2, lk_vi (nI (e))), (3, lk_vi 1), (4, lk_vi (nI (n))), (5, lk_vi (nI (x))), (6, lk_vi (nI (y - 1))), (7, lk_vi 1), (8, lk_vi 0)]) dX9_dayGoes_196 (by decide +kernel) rfl ?_
                      refine lk_goto (tgt := 129) dX9_dayGoes_198 (by decide) ?_
                      refine lk_sub (L' := [(0, lk_vr 1 0), (1, lk_vi (nI (u))), (2, lk_vi (nI (e))), (3, lk_vi 1), (4, lk_vi (nI (n))), (5, lk_vi (nI (x))), (6, lk_vi (nI (y - 1))), (7, lk_vi 1)]) [0, 1, 2, 3, 4, 5, 6, 7] rfl ?_
                      obtain ⟨f1, f2, f3, f4⟩ := hW2
                      rw [hj] at f3 f4
                      have hq := lk_all_trv (up := false) (z := 0) (by decide) (by decide) (lk_lks false n n) V1 U1 (lk_lks_lt (by omega)) ha
                      rw [hm, lk_dfi_d n u e _ (u - x) (e - y) c V1 U1 hw, lk_day_eq _ hj] at hI
                      exact ih x (y - 1) 1 (c + (lk_trv false 0 (lk_lks false n n) V1 U1).1) W2 (lk_trv false 0 (lk_lks false n n) V1 U1).2.2.1 (lk_trv false 0 (lk_lks false n n) V1 U1).2.2.2 (by omega) (by omega) (by omega) hq (lk_fx_tr hWf f1) (by rw [f2, hW2c]; exact nI_add _ _) (f3.trans hW4) (lk_kz_no hWk (by simpa using f4)) (by rw [hI]; congr 1 <;> omega) (by omega)
                    ·
                      refine lk_callV (o := 1) (as := [lk_vi 0, lk_vi 1]) (S := []) dX9_dayGoes_165 rfl vX9_crosses rfl lX9_215 rfl rfl (Nat.le_of_ble_eq_true rfl) (tX9_crosses_dn1 l X d W τ (V := V1) (T := U1) (n := n) (hV := ha.1) (hr := ha.2.1)) ?_
                      refine lk_k4 (fun W3 hW3 => ?_)
                      refine lk_cast (pc' := 168) (S' := [lk_vi (lk_jb (lk_trv false 0 (lk_lks false n n) V1 U1).2.1)]) rfl rfl rfl ?_
                      refine lk_eqtop (y := 0) (by rw [hj]; rfl) ?_
                      refine lk_sg (σ' := (lk_ms W3 (lk_trv false 0 (lk_lks false n n) V1 U1).2.2.1 (lk_trv false 0 (lk_lks false n n) V1 U1).2.2.2)) rfl ?_
                      refine lk_if_ne (tgt := 172) dX9_dayGoes_168 (by decide) (fun hh17 => absurd hh17 (by decide)) (fun hh17 => ?_)
                      refine lk_vret dX9_dayGoes_171 rfl ?_
                      rw [hQ]
                      obtain ⟨f1, f2, f3, f4⟩ := hW3
                      rw [hj] at f3 f4
                      rw [hm, lk_dfi_d n u e _ (u - x) (e - y) c V1 U1 hw, lk_day_eq _ hj, lk_dfi_b] at hI
                      rw [hI]
                      exact ⟨rfl, rfl, W3, rfl, lk_fx_tr hWf f1, by rw [f2, hW2c]; exact nI_add _ _, f3, lk_kz_no hWk (by simpa using f4)⟩
                  ·
                    refine lk_iconst (v := 1) dX9_dayGoes_154 (by decide) ?_
                    refine lk_goto (tgt := 159) dX9_dayGoes_155 (by decide) ?_
                    refine lk_istore (L' := [(0, lk_vr 1 0), (1, lk_vi (nI (u))), (2, lk_vi (nI (e))), (3, lk_vi 1), (4, lk_vi (nI (n))), (5, lk_vi (nI (x))), (6, lk_vi (nI (y))), (7, lk_vi (nI (p))), (8, lk_vi 1)]) dX9_dayGoes_159 (by decide +kernel) rfl ?_
                    refine lk_aload_n dX9_dayGoes_161 rfl rfl ?_
                    refine lk_iload dX9_dayGoes_162 rfl ?_
                    refine lk_iload_n dX9_dayGoes_164 rfl rfl ?_
                    have hw : lk_way u e (u - x) (e - y) = true := by simp [lk_way]; omega
                    have hm : x + y = (x + y - 1) + 1 := by omega
                    rcases hj : (lk_trv true 0 (lk_lks true 0 n) V1 U1).2.1 with _ | kq
                    ·
                      refine lk_callV (o := 1) (as := [lk_vi 1, lk_vi 1]) (S := []) dX9_dayGoes_165 rfl vX9_crosses rfl lX9_215 rfl rfl (Nat.le_of_ble_eq_true rfl) (tX9_crosses_up1 l X d W τ (V := V1) (T := U1) (n := n) (hV := ha.1) (hr := ha.2.1)) ?_
                      refine lk_k4 (fun W2 hW2 => ?_)
                      refine lk_cast (pc' := 168) (S' := [lk_vi (lk_jb (lk_trv true 0 (lk_lks true 0 n) V1 U1).2.1)]) rfl rfl rfl ?_
                      refine lk_eqtop (y := 1) (by rw [hj]; rfl) ?_
                      refine lk_sg (σ' := (lk_ms W2 (lk_trv true 0 (lk_lks true 0 n) V1 U1).2.2.1 (lk_trv true 0 (lk_lks true 0 n) V1 U1).2.2.2)) rfl ?_
                      refine lk_if_ne (tgt := 172) dX9_dayGoes_168 (by decide) (fun hh18 => ?_) (fun hh18 => absurd hh18 (by decide))
                      refine lk_iload dX9_dayGoes_172 rfl ?_
                      refine lk_if_eq (tgt := 183) dX9_dayGoes_174 (by decide) (fun hh19 => absurd hh19 (by decide)) (fun hh19 => ?_)
                      refine lk_idecN (a := x) (m := 1) (L' := [(0, lk_vr 1 0), (1, lk_vi (nI (u))), (2, lk_vi (nI (e))), (3, lk_vi 1), (4, lk_vi (nI (n))), (5, lk_vi (nI (x - 1))), (6, lk_vi (nI (y))), (7, lk_vi (nI (p))), (8, lk_vi 1)]) dX9_dayGoes_177 rfl rfl (by omega) (by decide +kernel) rfl ?_
                      refine lk_goto (tgt := 186) dX9_dayGoes_180 (by decide) ?_
                      refine lk_iload dX9_dayGoes_186 rfl ?_
                      refine lk_if_ne (tgt := 195) dX9_dayGoes_188 (by decide) (fun hh20 => ?_) (fun hh20 => absurd hh20 (by decide))
                      refine lk_iconst (v := 0) dX9_dayGoes_195 (by decide) ?_
                      refine lk_istore (L' := [(0, lk_vr 1 0), (1, lk_vi (nI (u))), (2, lk_vi (nI (e))), (3, lk_vi 1), (4, lk_vi (nI (n))), (5, lk_vi (nI (x - 1))), (6, lk_vi (nI (y))), (7, lk_vi 0), (8, lk_vi 1)]) dX9_dayGoes_196 (by decide +kernel) rfl ?_
                      refine lk_goto (tgt := 129) dX9_dayGoes_198 (by decide) ?_
                      refine lk_sub (L' := [(0, lk_vr 1 0), (1, lk_vi (nI (u))), (2, lk_vi (nI (e))), (3, lk_vi 1), (4, lk_vi (nI (n))), (5, lk_vi (nI (x - 1))), (6, lk_vi (nI (y))), (7, lk_vi 0)]) [0, 1, 2, 3, 4, 5, 6, 7] rfl ?_
                      obtain ⟨f1, f2, f3, f4⟩ := hW2
                      rw [hj] at f3 f4
                      have hq := lk_all_trv (up := true) (z := 0) (by decide) (by decide) (lk_lks true 0 n) V1 U1 (lk_lks_lt (by omega)) ha
                      rw [hm, lk_dfi_u n u e _ (u - x) (e - y) c V1 U1 hw, lk_day_eq _ hj] at hI
                      exact ih (x - 1) y 0 (c + (lk_trv true 0 (lk_lks true 0 n) V1 U1).1) W2 (lk_trv true 0 (lk_lks true 0 n) V1 U1).2.2.1 (lk_trv true 0 (lk_lks true 0 n) V1 U1).2.2.2 (by omega) (by omega) (by omega) hq (lk_fx_tr hWf f1) (by rw [f2, hW2c]; exact nI_add _ _) (f3.trans hW4) (lk_kz_no hWk (by simpa using f4)) (by rw [hI]; congr 1 <;> omega) (by omega)
                    ·
                      refine lk_callV (o := 1) (as := [lk_vi 1, lk_vi 1]) (S := []) dX9_dayGoes_165 rfl vX9_crosses rfl lX9_215 rfl rfl (Nat.le_of_ble_eq_true rfl) (tX9_crosses_up1 l X d W τ (V := V1) (T := U1) (n := n) (hV := ha.1) (hr := ha.2.1)) ?_
                      refine lk_k4 (fun W3 hW3 => ?_)
                      refine lk_cast (pc' := 168) (S' := [lk_vi (lk_jb (lk_trv true 0 (lk_lks true 0 n) V1 U1).2.1)]) rfl rfl rfl ?_
                      refine lk_eqtop (y := 0) (by rw [hj]; rfl) ?_
                      refine lk_sg (σ' := (lk_ms W3 (lk_trv true 0 (lk_lks true 0 n) V1 U1).2.2.1 (lk_trv true 0 (lk_lks true 0 n) V1 U1).2.2.2)) rfl ?_
                      refine lk_if_ne (tgt := 172) dX9_dayGoes_168 (by decide) (fun hh21 => absurd hh21 (by decide)) (fun hh21 => ?_)
                      refine lk_vret dX9_dayGoes_171 rfl ?_
                      rw [hQ]
                      obtain ⟨f1, f2, f3, f4⟩ := hW3
                      rw [hj] at f3 f4
                      rw [hm, lk_dfi_u n u e _ (u - x) (e - y) c V1 U1 hw, lk_day_eq _ hj, lk_dfi_b] at hI
                      rw [hI]
                      exact ⟨rfl, rfl, W3, rfl, lk_fx_tr hWf f1, by rw [f2, hW2c]; exact nI_add _ _, f3, lk_kz_no hWk (by simpa using f4)⟩
            ·
              refine lk_iload dX9_dayGoes_134 rfl ?_
              refine lk_if_leN (a := y) (tgt := 201) dX9_dayGoes_136 (by decide) (by omega) (fun hh22 => ?_) (fun hh22 => ?_)
              ·
                refine lk_vret dX9_dayGoes_201 rfl ?_
                rw [hQ]
                rw [show x + y = 0 by omega, lk_dfi_0] at hI
                rw [hI]
                exact ⟨rfl, rfl, W, rfl, hWf, hW2c, hW4, by simpa using hWk⟩
              ·
                refine lk_iload dX9_dayGoes_139 rfl ?_
                refine lk_if_eqN (a := y) (tgt := 154) dX9_dayGoes_141 (by decide) (by omega) (fun hh23 => ?_) (fun hh23 => ?_)
                ·
                  refine lk_iconst (v := 1) dX9_dayGoes_154 (by decide) ?_
                  refine lk_goto (tgt := 159) dX9_dayGoes_155 (by decide) ?_
                  refine lk_istore (L' := [(0, lk_vr 1 0), (1, lk_vi (nI (u))), (2, lk_vi (nI (e))), (3, lk_vi 1), (4, lk_vi (nI (n))), (5, lk_vi (nI (x))), (6, lk_vi (nI (y))), (7, lk_vi (nI (p))), (8, lk_vi 1)]) dX9_dayGoes_159 (by decide +kernel) rfl ?_
                  refine lk_aload_n dX9_dayGoes_161 rfl rfl ?_
                  refine lk_iload dX9_dayGoes_162 rfl ?_
                  refine lk_iload_n dX9_dayGoes_164 rfl rfl ?_
                  have hw : lk_way u e (u - x) (e - y) = true := by simp [lk_way]; omega
                  have hm : x + y = (x + y - 1) + 1 := by omega
                  rcases hj : (lk_trv true 0 (lk_lks true 0 n) V1 U1).2.1 with _ | kq
                  ·
                    refine lk_callV (o := 1) (as := [lk_vi 1, lk_vi 1]) (S := []) dX9_dayGoes_165 rfl vX9_crosses rfl lX9_215 rfl rfl (Nat.le_of_ble_eq_true rfl) (tX9_crosses_up1 l X d W τ (V := V1) (T := U1) (n := n) (hV := ha.1) (hr := ha.2.1)) ?_
                    refine lk_k4 (fun W2 hW2 => ?_)
                    refine lk_cast (pc' := 168) (S' := [lk_vi (lk_jb (lk_trv true 0 (lk_lks true 0 n) V1 U1).2.1)]) rfl rfl rfl ?_
                    refine lk_eqtop (y := 1) (by rw [hj]; rfl) ?_
                    refine lk_sg (σ' := (lk_ms W2 (lk_trv true 0 (lk_lks true 0 n) V1 U1).2.2.1 (lk_trv true 0 (lk_lks true 0 n) V1 U1).2.2.2)) rfl ?_
                    refine lk_if_ne (tgt := 172) dX9_dayGoes_168 (by decide) (fun hh24 => ?_) (fun hh24 => absurd hh24 (by decide))
                    refine lk_iload dX9_dayGoes_172 rfl ?_
                    refine lk_if_eq (tgt := 183) dX9_dayGoes_174 (by decide) (fun hh25 => absurd hh25 (by decide)) (fun hh25 => ?_)
                    refine lk_idecN (a := x) (m := 1) (L' := [(0, lk_vr 1 0), (1, lk_vi (nI (u))), (2, lk_vi (nI (e))), (3, lk_vi 1), (4, lk_vi (nI (n))), (5, lk_vi (nI (x - 1))), (6, lk_vi (nI (y))), (7, lk_vi (nI (p))), (8, lk_vi 1)]) dX9_dayGoes_177 rfl rfl (by omega) (by decide +kernel) rfl ?_
                    refine lk_goto (tgt := 186) dX9_dayGoes_180 (by decide) ?_
                    refine lk_iload dX9_dayGoes_186 rfl ?_
                    refine lk_if_ne (tgt := 195) dX9_dayGoes_188 (by decide) (fun hh26 => ?_) (fun hh26 => absurd hh26 (by decide))
                    refine lk_iconst (v := 0) dX9_dayGoes_195 (by decide) ?_
                    refine lk_istore (L' := [(0, lk_vr 1 0), (1, lk_vi (nI (u))), (2, lk_vi (nI (e))), (3, lk_vi 1), (4, lk_vi (nI (n))), (5, lk_vi (nI (x - 1))), (6, lk_vi (nI (y))), (7, lk_vi 0), (8, lk_vi 1)]) dX9_dayGoes_196 (by decide +kernel) rfl ?_
                    refine lk_goto (tgt := 129) dX9_dayGoes_198 (by decide) ?_
                    refine lk_sub (L' := [(0, lk_vr 1 0), (1, lk_vi (nI (u))), (2, lk_vi (nI (e))), (3, lk_vi 1), (4, lk_vi (nI (n))), (5, lk_vi (nI (x - 1))), (6, lk_vi (nI (y))), (7, lk_vi 0)]) [0, 1, 2, 3, 4, 5, 6, 7] rfl ?_
                    obtain ⟨f1, f2, f3, f4⟩ := hW2
                    rw [hj] at f3 f4
                    have hq := lk_all_trv (up := true) (z := 0) (by decide) (by decide) (lk_lks true 0 n) V1 U1 (lk_lks_lt (by omega)) ha
                    rw [hm, lk_dfi_u n u e _ (u - x) (e - y) c V1 U1 hw, lk_day_eq _ hj] at hI
                    exact ih (x - 1) y 0 (c + (lk_trv true 0 (lk_lks true 0 n) V1 U1).1) W2 (lk_trv true 0 (lk_lks true 0 n) V1 U1).2.2.1 (lk_trv true 0 (lk_lks true 0 n) V1 U1).2.2.2 (by omega) (by omega) (by omega) hq (lk_fx_tr hWf f1) (by rw [f2, hW2c]; exact nI_add _ _) (f3.trans hW4) (lk_kz_no hWk (by simpa using f4)) (by rw [hI]; congr 1 <;> omega) (by omega)
                  ·
                    refine lk_callV (o := 1) (as := [lk_vi 1, lk_vi 1]) (S := []) dX9_dayGoes_165 rfl vX9_crosses rfl lX9_215 rfl rfl (Nat.le_of_ble_eq_true rfl) (tX9_crosses_up1 l X d W τ (V := V1) (T := U1) (n := n) (hV := ha.1) (hr := ha.2.1)) ?_
                    refine lk_k4 (fun W3 hW3 => ?_)
                    refine lk_cast (pc' := 168) (S' := [lk_vi (lk_jb (lk_trv true 0 (lk_lks true 0 n) V1 U1).2.1)]) rfl rfl rfl ?_
                    refine lk_eqtop (y := 0) (by rw [hj]; rfl) ?_
                    refine lk_sg (σ' := (lk_ms W3 (lk_trv true 0 (lk_lks true 0 n) V1 U1).2.2.1 (lk_trv true 0 (lk_lks true 0 n) V1 U1).2.2.2)) rfl ?_
                    refine lk_if_ne (tgt := 172) dX9_dayGoes_168 (by decide) (fun hh27 => absurd hh27 (by decide)) (fun hh27 => ?_)
                    refine lk_vret dX9_dayGoes_171 rfl ?_
                    rw [hQ]
                    obtain ⟨f1, f2, f3, f4⟩ := hW3
                    rw [hj] at f3 f4
                    rw [hm, lk_dfi_u n u e _ (u - x) (e - y) c V1 U1 hw, lk_day_eq _ hj, lk_dfi_b] at hI
                    rw [hI]
                    exact ⟨rfl, rfl, W3, rfl, lk_fx_tr hWf f1, by rw [f2, hW2c]; exact nI_add _ _, f3, lk_kz_no hWk (by simpa using f4)⟩
                ·
                  refine lk_iload dX9_dayGoes_144 rfl ?_
                  refine lk_if_leN (a := x) (tgt := 158) dX9_dayGoes_146 (by decide) (by omega) (fun hh28 => ?_) (fun hh28 => ?_)
                  ·
                    refine lk_iconst (v := 0) dX9_dayGoes_158 (by decide) ?_
                    refine lk_istore (L' := [(0, lk_vr 1 0), (1, lk_vi (nI (u))), (2, lk_vi (nI (e))), (3, lk_vi 1), (4, lk_vi (nI (n))), (5, lk_vi (nI (x))), (6, lk_vi (nI (y))), (7, lk_vi (nI (p))), (8, lk_vi 0)]) dX9_dayGoes_159 (by decide +kernel) rfl ?_
                    refine lk_aload_n dX9_dayGoes_161 rfl rfl ?_
                    refine lk_iload dX9_dayGoes_162 rfl ?_
                    refine lk_iload_n dX9_dayGoes_164 rfl rfl ?_
                    have hw : lk_way u e (u - x) (e - y) = false := by simp [lk_way]; omega
                    have hm : x + y = (x + y - 1) + 1 := by omega
                    rcases hj : (lk_trv false 0 (lk_lks false n n) V1 U1).2.1 with _ | kq
                    ·
                      refine lk_callV (o := 1) (as := [lk_vi 0, lk_vi 1]) (S := []) dX9_dayGoes_165 rfl vX9_crosses rfl lX9_215 rfl rfl (Nat.le_of_ble_eq_true rfl) (tX9_crosses_dn1 l X d W τ (V := V1) (T := U1) (n := n) (hV := ha.1) (hr := ha.2.1)) ?_
                      refine lk_k4 (fun W2 hW2 => ?_)
                      refine lk_cast (pc' := 168) (S' := [lk_vi (lk_jb (lk_trv false 0 (lk_lks false n n) V1 U1).2.1)]) rfl rfl rfl ?_
                      refine lk_eqtop (y := 1) (by rw [hj]; rfl) ?_
                      refine lk_sg (σ' := (lk_ms W2 (lk_trv false 0 (lk_lks false n n) V1 U1).2.2.1 (lk_trv false 0 (lk_lks false n n) V1 U1).2.2.2)) rfl ?_
                      refine lk_if_ne (tgt := 172) dX9_dayGoes_168 (by decide) (fun hh29 => ?_) (fun hh29 => absurd hh29 (by decide))
                      refine lk_iload dX9_dayGoes_172 rfl ?_
                      refine lk_if_eq (tgt := 183) dX9_dayGoes_174 (by decide) (fun hh30 => ?_) (fun hh30 => absurd hh30 (by decide))
                      refine lk_idecN (a := y) (m := 1) (L' := [(0, lk_vr 1 0), (1, lk_vi (nI (u))), (2, lk_vi (nI (e))), (3, lk_vi 1), (4, lk_vi (nI (n))), (5, lk_vi (nI (x))), (6, lk_vi (nI (y - 1))), (7, lk_vi (nI (p))), (8, lk_vi 0)]) dX9_dayGoes_183 rfl rfl (by omega) (by decide +kernel) rfl ?_
                      refine lk_iload dX9_dayGoes_186 rfl ?_
                      refine lk_if_ne (tgt := 195) dX9_dayGoes_188 (by decide) (fun hh31 => absurd hh31 (by decide)) (fun hh31 => ?_)
                      refine lk_iconst (v := 1) dX9_dayGoes_191 (by decide) ?_
                      refine lk_goto (tgt := 196) dX9_dayGoes_192 (by decide) ?_
                      refine lk_istore (L' := [(0, lk_vr 1 0), (1, lk_vi (nI (u))), (2, lk_vi (nI (e))), (3, lk_vi 1), (4, lk_vi (nI (n))), (5, lk_vi (nI (x))), (6, lk_vi (nI (y - 1))), (7, lk_vi 1), (8, lk_vi 0)]) dX9_dayGoes_196 (by decide +kernel) rfl ?_
                      refine lk_goto (tgt := 129) dX9_dayGoes_198 (by decide) ?_
                      refine lk_sub (L' := [(0, lk_vr 1 0), (1, lk_vi (nI (u))), (2, lk_vi (nI (e))), (3, lk_vi 1), (4, lk_vi (nI (n))), (5, lk_vi (nI (x))), (6, lk_vi (nI (y - 1))), (7, lk_vi 1)]) [0, 1, 2, 3, 4, 5, 6, 7] rfl ?_
                      obtain ⟨f1, f2, f3, f4⟩ := hW2
                      rw [hj] at f3 f4
                      have hq := lk_all_trv (up := false) (z := 0) (by decide) (by decide) (lk_lks false n n) V1 U1 (lk_lks_lt (by omega)) ha
                      rw [hm, lk_dfi_d n u e _ (u - x) (e - y) c V1 U1 hw, lk_day_eq _ hj] at hI
                      exact ih x (y - 1) 1 (c + (lk_trv false 0 (lk_lks false n n) V1 U1).1) W2 (lk_trv false 0 (lk_lks false n n) V1 U1).2.2.1 (lk_trv false 0 (lk_lks false n n) V1 U1).2.2.2 (by omega) (by omega) (by omega) hq (lk_fx_tr hWf f1) (by rw [f2, hW2c]; exact nI_add _ _) (f3.trans hW4) (lk_kz_no hWk (by simpa using f4)) (by rw [hI]; congr 1 <;> omega) (by omega)
                    ·
                      refine lk_callV (o := 1) (as := [lk_vi 0, lk_vi 1]) (S := []) dX9_dayGoes_165 rfl vX9_crosses rfl lX9_215 rfl rfl (Nat.le_of_ble_eq_true rfl) (tX9_crosses_dn1 l X d W τ (V := V1) (T := U1) (n := n) (hV := ha.1) (hr := ha.2.1)) ?_
                      refine lk_k4 (fun W3 hW3 => ?_)
                      refine lk_cast (pc' := 168) (S' := [lk_vi (lk_jb (lk_trv false 0 (lk_lks false n n) V1 U1).2.1)]) rfl rfl rfl ?_
                      refine lk_eqtop (y := 0) (by rw [hj]; rfl) ?_
                      refine lk_sg (σ' := (lk_ms W3 (lk_trv false 0 (lk_lks false n n) V1 U1).2.2.1 (lk_trv false 0 (lk_lks false n n) V1 U1).2.2.2)) rfl ?_
                      refine lk_if_ne (tgt := 172) dX9_dayGoes_168 (by decide) (fun hh32 => absurd hh32 (by decide)) (fun hh32 => ?_)
                      refine lk_vret dX9_dayGoes_171 rfl ?_
                      rw [hQ]
                      obtain ⟨f1, f2, f3, f4⟩ := hW3
                      rw [hj] at f3 f4
                      rw [hm, lk_dfi_d n u e _ (u - x) (e - y) c V1 U1 hw, lk_day_eq _ hj, lk_dfi_b] at hI
                      rw [hI]
                      exact ⟨rfl, rfl, W3, rfl, lk_fx_tr hWf f1, by rw [f2, hW2c]; exact nI_add _ _, f3, lk_kz_no hWk (by simpa using f4)⟩
                  ·
                    refine lk_iload dX9_dayGoes_149 rfl ?_
                    refine lk_if_eqN (a := p) (tgt := 158) dX9_dayGoes_151 (by decide) (by omega) (fun hh33 => ?_) (fun hh33 => ?_)
                    ·
                      refine lk_iconst (v := 0) dX9_dayGoes_158 (by decide) ?_
                      refine lk_istore (L' := [(0, lk_vr 1 0), (1, lk_vi (nI (u))), (2, lk_vi (nI (e))), (3, lk_vi 1), (4, lk_vi (nI (n))), (5, lk_vi (nI (x))), (6, lk_vi (nI (y))), (7, lk_vi (nI (p))), (8, lk_vi 0)]) dX9_dayGoes_159 (by decide +kernel) rfl ?_
                      refine lk_aload_n dX9_dayGoes_161 rfl rfl ?_
                      refine lk_iload dX9_dayGoes_162 rfl ?_
                      refine lk_iload_n dX9_dayGoes_164 rfl rfl ?_
                      have hw : lk_way u e (u - x) (e - y) = false := by simp [lk_way]; omega
                      have hm : x + y = (x + y - 1) + 1 := by omega
                      rcases hj : (lk_trv false 0 (lk_lks false n n) V1 U1).2.1 with _ | kq
                      ·
                        refine lk_callV (o := 1) (as := [lk_vi 0, lk_vi 1]) (S := []) dX9_dayGoes_165 rfl vX9_crosses rfl lX9_215 rfl rfl (Nat.le_of_ble_eq_true rfl) (tX9_crosses_dn1 l X d W τ (V := V1) (T := U1) (n := n) (hV := ha.1) (hr := ha.2.1)) ?_
                        refine lk_k4 (fun W2 hW2 => ?_)
                        refine lk_cast (pc' := 168) (S' := [lk_vi (lk_jb (lk_trv false 0 (lk_lks false n n) V1 U1).2.1)]) rfl rfl rfl ?_
                        refine lk_eqtop (y := 1) (by rw [hj]; rfl) ?_
                        refine lk_sg (σ' := (lk_ms W2 (lk_trv false 0 (lk_lks false n n) V1 U1).2.2.1 (lk_trv false 0 (lk_lks false n n) V1 U1).2.2.2)) rfl ?_
                        refine lk_if_ne (tgt := 172) dX9_dayGoes_168 (by decide) (fun hh34 => ?_) (fun hh34 => absurd hh34 (by decide))
                        refine lk_iload dX9_dayGoes_172 rfl ?_
                        refine lk_if_eq (tgt := 183) dX9_dayGoes_174 (by decide) (fun hh35 => ?_) (fun hh35 => absurd hh35 (by decide))
                        refine lk_idecN (a := y) (m := 1) (L' := [(0, lk_vr 1 0), (1, lk_vi (nI (u))), (2, lk_vi (nI (e))), (3, lk_vi 1), (4, lk_vi (nI (n))), (5, lk_vi (nI (x))), (6, lk_vi (nI (y - 1))), (7, lk_vi (nI (p))), (8, lk_vi 0)]) dX9_dayGoes_183 rfl rfl (by omega) (by decide +kernel) rfl ?_
                        refine lk_iload dX9_dayGoes_186 rfl ?_
                        refine lk_if_ne (tgt := 195) dX9_dayGoes_188 (by decide) (fun hh36 => absurd hh36 (by decide)) (fun hh36 => ?_)
                        refine lk_iconst (v := 1) dX9_dayGoes_191 (by decide) ?_
                        refine lk_goto (tgt := 196) dX9_dayGoes_192 (by decide) ?_
                        refine lk_istore (L' := [(0, lk_vr 1 0), (1, lk_vi (nI (u))), (2, lk_vi (nI (e))), (3, lk_vi 1), (4, lk_vi (nI (n))), (5, lk_vi (nI (x))), (6, lk_vi (nI (y - 1))), (7, lk_vi 1), (8, lk_vi 0)]) dX9_dayGoes_196 (by decide +kernel) rfl ?_
                        refine lk_goto (tgt := 129) dX9_dayGoes_198 (by decide) ?_
                        refine lk_sub (L' := [(0, lk_vr 1 0), (1, lk_vi (nI (u))), (2, lk_vi (nI (e))), (3, lk_vi 1), (4, lk_vi (nI (n))), (5, lk_vi (nI (x))), (6, lk_vi (nI (y - 1))), (7, lk_vi 1)]) [0, 1, 2, 3, 4, 5, 6, 7] rfl ?_
                        obtain ⟨f1, f2, f3, f4⟩ := hW2
                        rw [hj] at f3 f4
                        have hq := lk_all_trv (up := false) (z := 0) (by decide) (by decide) (lk_lks false n n) V1 U1 (lk_lks_lt (by omega)) ha
                        rw [hm, lk_dfi_d n u e _ (u - x) (e - y) c V1 U1 hw, lk_day_eq _ hj] at hI
                        exact ih x (y - 1) 1 (c + (lk_trv false 0 (lk_lks false n n) V1 U1).1) W2 (lk_trv false 0 (lk_lks false n n) V1 U1).2.2.1 (lk_trv false 0 (lk_lks false n n) V1 U1).2.2.2 (by omega) (by omega) (by omega) hq (lk_fx_tr hWf f1) (by rw [f2, hW2c]; exact nI_add _ _) (f3.trans hW4) (lk_kz_no hWk (by simpa using f4)) (by rw [hI]; congr 1 <;> omega) (by omega)
                      ·
                        refine lk_callV (o := 1) (as := [lk_vi 0, lk_vi 1]) (S := []) dX9_dayGoes_165 rfl vX9_crosses rfl lX9_215 rfl rfl (Nat.le_of_ble_eq_true rfl) (tX9_crosses_dn1 l X d W τ (V := V1) (T := U1) (n := n) (hV := ha.1) (hr := ha.2.1)) ?_
                        refine lk_k4 (fun W3 hW3 => ?_)
                        refine lk_cast (pc' := 168) (S' := [lk_vi (lk_jb (lk_trv false 0 (lk_lks false n n) V1 U1).2.1)]) rfl rfl rfl ?_
                        refine lk_eqtop (y := 0) (by rw [hj]; rfl) ?_
                        refine lk_sg (σ' := (lk_ms W3 (lk_trv false 0 (lk_lks false n n) V1 U1).2.2.1 (lk_trv false 0 (lk_lks false n n) V1 U1).2.2.2)) rfl ?_
                        refine lk_if_ne (tgt := 172) dX9_dayGoes_168 (by decide) (fun hh37 => absurd hh37 (by decide)) (fun hh37 => ?_)
                        refine lk_vret dX9_dayGoes_171 rfl ?_
                        rw [hQ]
                        obtain ⟨f1, f2, f3, f4⟩ := hW3
                        rw [hj] at f3 f4
                        rw [hm, lk_dfi_d n u e _ (u - x) (e - y) c V1 U1 hw, lk_day_eq _ hj, lk_dfi_b] at hI
                        rw [hI]
                        exact ⟨rfl, rfl, W3, rfl, lk_fx_tr hWf f1, by rw [f2, hW2c]; exact nI_add _ _, f3, lk_kz_no hWk (by simpa using f4)⟩
                    ·
                      refine lk_iconst (v := 1) dX9_dayGoes_154 (by decide) ?_
                      refine lk_goto (tgt := 159) dX9_dayGoes_155 (by decide) ?_
                      refine lk_istore (L' := [(0, lk_vr 1 0), (1, lk_vi (nI (u))), (2, lk_vi (nI (e))), (3, lk_vi 1), (4, lk_vi (nI (n))), (5, lk_vi (nI (x))), (6, lk_vi (nI (y))), (7, lk_vi (nI (p))), (8, lk_vi 1)]) dX9_dayGoes_159 (by decide +kernel) rfl ?_
                      refine lk_aload_n dX9_dayGoes_161 rfl rfl ?_
                      refine lk_iload dX9_dayGoes_162 rfl ?_
                      refine lk_iload_n dX9_dayGoes_164 rfl rfl ?_
                      have hw : lk_way u e (u - x) (e - y) = true := by simp [lk_way]; omega
                      have hm : x + y = (x + y - 1) + 1 := by omega
                      rcases hj : (lk_trv true 0 (lk_lks true 0 n) V1 U1).2.1 with _ | kq
                      ·
                        refine lk_callV (o := 1) (as := [lk_vi 1, lk_vi 1]) (S := []) dX9_dayGoes_165 rfl vX9_crosses rfl lX9_215 rfl rfl (Nat.le_of_ble_eq_true rfl) (tX9_crosses_up1 l X d W τ (V := V1) (T := U1) (n := n) (hV := ha.1) (hr := ha.2.1)) ?_
                        refine lk_k4 (fun W2 hW2 => ?_)
                        refine lk_cast (pc' := 168) (S' := [lk_vi (lk_jb (lk_trv true 0 (lk_lks true 0 n) V1 U1).2.1)]) rfl rfl rfl ?_
                        refine lk_eqtop (y := 1) (by rw [hj]; rfl) ?_
                        refine lk_sg (σ' := (lk_ms W2 (lk_trv true 0 (lk_lks true 0 n) V1 U1).2.2.1 (lk_trv true 0 (lk_lks true 0 n) V1 U1).2.2.2)) rfl ?_
                        refine lk_if_ne (tgt := 172) dX9_dayGoes_168 (by decide) (fun hh38 => ?_) (fun hh38 => absurd hh38 (by decide))
                        refine lk_iload dX9_dayGoes_172 rfl ?_
                        refine lk_if_eq (tgt := 183) dX9_dayGoes_174 (by decide) (fun hh39 => absurd hh39 (by decide)) (fun hh39 => ?_)
                        refine lk_idecN (a := x) (m := 1) (L' := [(0, lk_vr 1 0), (1, lk_vi (nI (u))), (2, lk_vi (nI (e))), (3, lk_vi 1), (4, lk_vi (nI (n))), (5, lk_vi (nI (x - 1))), (6, lk_vi (nI (y))), (7, lk_vi (nI (p))), (8, lk_vi 1)]) dX9_dayGoes_177 rfl rfl (by omega) (by decide +kernel) rfl ?_
                        refine lk_goto (tgt := 186) dX9_dayGoes_180 (by decide) ?_
                        refine lk_iload dX9_dayGoes_186 rfl ?_
                        refine lk_if_ne (tgt := 195) dX9_dayGoes_188 (by decide) (fun hh40 => ?_) (fun hh40 => absurd hh40 (by decide))
                        refine lk_iconst (v := 0) dX9_dayGoes_195 (by decide) ?_
                        refine lk_istore (L' := [(0, lk_vr 1 0), (1, lk_vi (nI (u))), (2, lk_vi (nI (e))), (3, lk_vi 1), (4, lk_vi (nI (n))), (5, lk_vi (nI (x - 1))), (6, lk_vi (nI (y))), (7, lk_vi 0), (8, lk_vi 1)]) dX9_dayGoes_196 (by decide +kernel) rfl ?_
                        refine lk_goto (tgt := 129) dX9_dayGoes_198 (by decide) ?_
                        refine lk_sub (L' := [(0, lk_vr 1 0), (1, lk_vi (nI (u))), (2, lk_vi (nI (e))), (3, lk_vi 1), (4, lk_vi (nI (n))), (5, lk_vi (nI (x - 1))), (6, lk_vi (nI (y))), (7, lk_vi 0)]) [0, 1, 2, 3, 4, 5, 6, 7] rfl ?_
                        obtain ⟨f1, f2, f3, f4⟩ := hW2
                        rw [hj] at f3 f4
                        have hq := lk_all_trv (up := true) (z := 0) (by decide) (by decide) (lk_lks true 0 n) V1 U1 (lk_lks_lt (by omega)) ha
                        rw [hm, lk_dfi_u n u e _ (u - x) (e - y) c V1 U1 hw, lk_day_eq _ hj] at hI
                        exact ih (x - 1) y 0 (c + (lk_trv true 0 (lk_lks true 0 n) V1 U1).1) W2 (lk_trv true 0 (lk_lks true 0 n) V1 U1).2.2.1 (lk_trv true 0 (lk_lks true 0 n) V1 U1).2.2.2 (by omega) (by omega) (by omega) hq (lk_fx_tr hWf f1) (by rw [f2, hW2c]; exact nI_add _ _) (f3.trans hW4) (lk_kz_no hWk (by simpa using f4)) (by rw [hI]; congr 1 <;> omega) (by omega)
                      ·
                        refine lk_callV (o := 1) (as := [lk_vi 1, lk_vi 1]) (S := []) dX9_dayGoes_165 rfl vX9_crosses rfl lX9_215 rfl rfl (Nat.le_of_ble_eq_true rfl) (tX9_crosses_up1 l X d W τ (V := V1) (T := U1) (n := n) (hV := ha.1) (hr := ha.2.1)) ?_
                        refine lk_k4 (fun W3 hW3 => ?_)
                        refine lk_cast (pc' := 168) (S' := [lk_vi (lk_jb (lk_trv true 0 (lk_lks true 0 n) V1 U1).2.1)]) rfl rfl rfl ?_
                        refine lk_eqtop (y := 0) (by rw [hj]; rfl) ?_
                        refine lk_sg (σ' := (lk_ms W3 (lk_trv true 0 (lk_lks true 0 n) V1 U1).2.2.1 (lk_trv true 0 (lk_lks true 0 n) V1 U1).2.2.2)) rfl ?_
                        refine lk_if_ne (tgt := 172) dX9_dayGoes_168 (by decide) (fun hh41 => absurd hh41 (by decide)) (fun hh41 => ?_)
                        refine lk_vret dX9_dayGoes_171 rfl ?_
                        rw [hQ]
                        obtain ⟨f1, f2, f3, f4⟩ := hW3
                        rw [hj] at f3 f4
                        rw [hm, lk_dfi_u n u e _ (u - x) (e - y) c V1 U1 hw, lk_day_eq _ hj, lk_dfi_b] at hI
                        rw [hI]
                        exact ⟨rfl, rfl, W3, rfl, lk_fx_tr hWf f1, by rw [f2, hW2c]; exact nI_add _ _, f3, lk_kz_no hWk (by simpa using f4)⟩
        refine lk_sg (σ' := (lk_ms (lk_up (lk_up σ 1 22 0 0) 1 24 0 (-2)) (lk_ou (lk_lag V n) 12 0 0) T)) (by rw [lk_ms_12, lk_lsA_t]) ?_
        exact LP129 (u + e + 1) u e 1 0 (lk_up (lk_up σ 1 22 0 0) 1 24 0 (-2)) _ T (by omega) (by omega) (by omega) (lk_all_lag ha0) (lk_fx_up (lk_fx_up (lk_fx_rf _ _) (by decide)) (by decide)) rfl rfl ⟨rfl, rfl⟩ (by simp [lk_day, lk_dfi]) (by omega)
      ·
        rw [nI_pred]
        refine lk_if_ltN (a := i) (tgt := 79) dX9_dayGoes_26 (by decide) (by omega) (fun hh42 => absurd hh42 (by omega)) (fun hh42 => ?_)
        refine lk_aload_n dX9_dayGoes_29 rfl rfl ?_
        refine lk_getR (f := 0) dX9_dayGoes_30 rfl fX9_9 (by decide) (by decide) ?_
        refine lk_bipush (v := 24) dX9_dayGoes_33 (by decide) ?_
        refine lk_iload dX9_dayGoes_35 rfl ?_
        refine lk_iaddN (a := 24) (b := i) dX9_dayGoes_37 ?_
        refine lk_aload_n dX9_dayGoes_38 rfl rfl ?_
        refine lk_getR (f := 0) dX9_dayGoes_39 rfl fX9_9 (by decide) (by decide) ?_
        refine lk_bipush (v := 31) dX9_dayGoes_42 (by decide) ?_
        refine lk_iload dX9_dayGoes_44 rfl ?_
        refine lk_iaddN (a := 31) (b := i) dX9_dayGoes_46 ?_
        refine lk_ialdN (f := 0) (i := 31 + i) dX9_dayGoes_47 rfl (by decide) rfl (by omega) (by decide) ?_
        refine lk_eqtop (y := ((lk_lsA V n (i + 1)) 7 (i))) (lk_r7 (by omega) (by omega)) ?_
        refine lk_aload_n dX9_dayGoes_48 rfl rfl ?_
        refine lk_getR (f := 0) dX9_dayGoes_49 rfl fX9_9 (by decide) (by decide) ?_
        refine lk_bipush (v := 24) dX9_dayGoes_52 (by decide) ?_
        refine lk_iload dX9_dayGoes_54 rfl ?_
        refine lk_iaddN (a := 24) (b := i) dX9_dayGoes_56 ?_
        refine lk_ialdN (f := 0) (i := 24 + i) dX9_dayGoes_57 rfl (by decide) rfl (by omega) (by decide) ?_
        refine lk_eqtop (y := ((lk_lsA V n (i + 1)) 6 (i))) (lk_r6 (by omega) (by omega)) ?_
        refine lk_aload_n dX9_dayGoes_58 rfl rfl ?_
        refine lk_getR (f := 0) dX9_dayGoes_59 rfl fX9_9 (by decide) (by decide) ?_
        refine lk_bipush (v := 45) dX9_dayGoes_62 (by decide) ?_
        refine lk_iload dX9_dayGoes_64 rfl ?_
        refine lk_iaddN (a := 45) (b := i) dX9_dayGoes_66 ?_
        refine lk_ialdN (f := 0) (i := 45 + i) dX9_dayGoes_67 rfl (by decide) rfl (by omega) (by decide) ?_
        refine lk_eqtop (y := ((lk_lsA V n (i + 1)) 9 (i))) (lk_r9 (by omega) (by omega)) ?_
        refine lk_isub dX9_dayGoes_68 ?_
        refine lk_mmax dX9_dayGoes_69 lX9_212 (Nat.le_of_ble_eq_true rfl) ?_
        refine lk_iastN (f := 0) (i := 24 + i) (v := (if ((lk_lsA V n (i + 1)) 7 (i)) < (((lk_lsA V n (i + 1)) 6 (i)) - ((lk_lsA V n (i + 1)) 9 (i))) then (((lk_lsA V n (i + 1)) 6 (i)) - ((lk_lsA V n (i + 1)) 9 (i))) else ((lk_lsA V n (i + 1)) 7 (i)))) dX9_dayGoes_72 rfl (by decide) rfl (by omega) (by decide) ?_
        refine lk_sg (σ' := (lk_ms (lk_up (lk_up σ 1 22 0 0) 1 24 0 (-2)) (lk_ou (lk_lsA V n (i + 1)) 6 (i) (if ((lk_lsA V n (i + 1)) 7 (i)) < (((lk_lsA V n (i + 1)) 6 (i)) - ((lk_lsA V n (i + 1)) 9 (i))) then (((lk_lsA V n (i + 1)) 6 (i)) - ((lk_lsA V n (i + 1)) 9 (i))) else ((lk_lsA V n (i + 1)) 7 (i)))) T)) (lk_w6 (by omega) (by omega)) ?_
        refine lk_iinc (v := (nI (i)) + (-1)) (L' := [(0, lk_vr 1 0), (1, lk_vi (nI (u))), (2, lk_vi (nI (e))), (3, lk_vi 1), (4, lk_vi (nI (n))), (5, lk_vi ((nI (i)) + (-1)))]) dX9_dayGoes_73 rfl rfl (by decide +kernel) rfl ?_
        refine lk_goto (tgt := 24) dX9_dayGoes_76 (by decide) ?_
        rw [lk_lsA_o V (by omega)]
        exact ih i _ (by omega) (by rw [Int32.sub_eq_add_neg]) (by omega)
  refine lk_sg (σ' := (lk_ms (lk_up (lk_up σ 1 22 0 0) 1 24 0 (-2)) (lk_lsA V n (n + 1)) T)) (by rw [lk_lsA_i]) ?_
  exact LP24 (n + 2) (n + 1) (nI n) (by omega) (nI_pred n).symm (by omega)

set_option maxHeartbeats 1000000 in
set_option maxRecDepth 100000 in
theorem tX9_dayGoes0 (l : Launch) (X : lk_G) (d : Nat) (σ : lk_N) (τ : lk_T) (V T : lk_O) (n u e : Nat) (ha0 : lk_all V n) (hu : u ≤ 4) (he : e ≤ 4) : lk_Mt l X mX9_dayGoes (d + 5) [lk_vr 1 0, lk_vi (nI (u)), lk_vi (nI (e)), lk_vi 0] (lk_ms σ V T) τ (fun rr σ1 τ1 => rr = none ∧ τ1 = τ ∧ ∃ W : lk_N, σ1 = lk_ms W (lk_day V T n u e).2.2.1 T ∧ lk_dgP 0 σ W (lk_day V T n u e).1 (lk_day V T n u e).2.1) := by
  refine lk_met (L := [(0, lk_vr 1 0), (1, lk_vi (nI (u))), (2, lk_vi (nI (e))), (3, lk_vi 0)]) (by decide +kernel) (Nat.le_of_ble_eq_true rfl) rfl ?_
  obtain ⟨Q, hQ⟩ : ∃ Q : lk_Q, Q = fun rr σ1 τ1 => rr = none ∧ τ1 = τ ∧ ∃ W : lk_N, σ1 = lk_ms W (lk_day V T n u e).2.2.1 T ∧ lk_dgP 0 σ W (lk_day V T n u e).1 (lk_day V T n u e).2.1 := ⟨_, rfl⟩
  rw [← hQ]
  have hn6 := ha0.1.2.2.1
  refine lk_aload_n dX9_dayGoes_0 rfl rfl ?_
  refine lk_getR (f := 0) dX9_dayGoes_1 rfl fX9_9 (by decide) (by decide) ?_
  refine lk_bipush (v := 53) dX9_dayGoes_4 (by decide) ?_
  refine lk_ialdN (f := 0) (i := 53) dX9_dayGoes_6 rfl (by decide) rfl (by omega) (by decide) ?_
  refine lk_eqtop (y := (nI (n))) ((lk_r0 rfl rfl).trans ha0.1.1) ?_
  refine lk_istore (L' := [(0, lk_vr 1 0), (1, lk_vi (nI (u))), (2, lk_vi (nI (e))), (3, lk_vi 0), (4, lk_vi (nI (n)))]) dX9_dayGoes_7 (by decide +kernel) rfl ?_
  refine lk_aload_n dX9_dayGoes_9 rfl rfl ?_
  refine lk_iconst (v := 0) dX9_dayGoes_10 (by decide) ?_
  refine lk_putI (f := 22) dX9_dayGoes_11 rfl fX9_196 (by decide) (by decide) ?_
  refine lk_sg (σ' := (lk_ms (lk_up σ 1 22 0 0) V T)) (lk_wf (by decide)) ?_
  refine lk_aload_n dX9_dayGoes_14 rfl rfl ?_
  refine lk_bipush (v := (-2)) dX9_dayGoes_15 (by decide) ?_
  refine lk_putI (f := 24) dX9_dayGoes_17 rfl fX9_209 (by decide) (by decide) ?_
  refine lk_sg (σ' := (lk_ms (lk_up (lk_up σ 1 22 0 0) 1 24 0 (-2)) V T)) (lk_wf (by decide)) ?_
  refine lk_iload dX9_dayGoes_20 rfl ?_
  refine lk_istore (L' := [(0, lk_vr 1 0), (1, lk_vi (nI (u))), (2, lk_vi (nI (e))), (3, lk_vi 0), (4, lk_vi (nI (n))), (5, lk_vi (nI (n)))]) dX9_dayGoes_22 (by decide +kernel) rfl ?_
  have LP24 : ∀ (fu : Nat) (i : Nat) (x : Int32), i ≤ n + 1 → x = nI i - 1 → i < fu → lk_W l X mX9_dayGoes (d + 5) 24 [(0, lk_vr 1 0), (1, lk_vi (nI (u))), (2, lk_vi (nI (e))), (3, lk_vi 0), (4, lk_vi (nI (n))), (5, lk_vi (x))] [] (lk_ms (lk_up (lk_up σ 1 22 0 0) 1 24 0 (-2)) (lk_lsA V n i) T) τ Q := by
    intro fu
    induction fu with
    | zero => intro i x hi hx hfu; exact absurd hfu (by omega)
    | succ fu ih =>
      intro i x hi hx hfu
      refine lk_iload dX9_dayGoes_24 rfl ?_
      subst hx
      rcases i with _ | i
      ·
        refine lk_if_lt (tgt := 79) dX9_dayGoes_26 (by decide) (fun hh1 => ?_) (fun hh1 => absurd hh1 (by intro q; exact q (by decide)))
        refine lk_aload_n dX9_dayGoes_79 rfl rfl ?_
        refine lk_getR (f := 0) dX9_dayGoes_80 rfl fX9_9 (by decide) (by decide) ?_
        refine lk_bipush (v := 24) dX9_dayGoes_83 (by decide) ?_
        refine lk_iload dX9_dayGoes_85 rfl ?_
        refine lk_iaddN (a := 24) (b := n) dX9_dayGoes_87 ?_
        refine lk_aload_n dX9_dayGoes_88 rfl rfl ?_
        refine lk_getR (f := 0) dX9_dayGoes_89 rfl fX9_9 (by decide) (by decide) ?_
        refine lk_bipush (v := 38) dX9_dayGoes_92 (by decide) ?_
        refine lk_iload dX9_dayGoes_94 rfl ?_
        refine lk_iaddN (a := 38) (b := n) dX9_dayGoes_96 ?_
        refine lk_ialdN (f := 0) (i := 38 + n) dX9_dayGoes_97 rfl (by decide) rfl (by omega) (by decide) ?_
        refine lk_eqtop (y := ((lk_lsA V n 0) 8 (n))) (lk_r8 (by omega) (by omega)) ?_
        refine lk_aload_n dX9_dayGoes_98 rfl rfl ?_
        refine lk_getR (f := 0) dX9_dayGoes_99 rfl fX9_9 (by decide) (by decide) ?_
        refine lk_bipush (v := 24) dX9_dayGoes_102 (by decide) ?_
        refine lk_iload dX9_dayGoes_104 rfl ?_
        refine lk_iaddN (a := 24) (b := n) dX9_dayGoes_106 ?_
        refine lk_ialdN (f := 0) (i := 24 + n) dX9_dayGoes_107 rfl (by decide) rfl (by omega) (by decide) ?_
        refine lk_eqtop (y := ((lk_lsA V n 0) 6 (n))) (lk_r6 (by omega) (by omega)) ?_
        refine lk_aload_n dX9_dayGoes_108 rfl rfl ?_
        refine lk_getR (f := 0) dX9_dayGoes_109 rfl fX9_9 (by decide) (by decide) ?_
        refine lk_bipush (v := 52) dX9_dayGoes_112 (by decide) ?_
        refine lk_ialdN (f := 0) (i := 52) dX9_dayGoes_114 rfl (by decide) rfl (by omega) (by decide) ?_
        refine lk_eqtop (y := ((lk_lsA V n 0) 1 (0))) (lk_r1 (by omega) (by omega)) ?_
        refine lk_iadd dX9_dayGoes_115 ?_
        refine lk_mmin dX9_dayGoes_116 lX9_177 (Nat.le_of_ble_eq_true rfl) ?_
        refine lk_iastN (f := 0) (i := 24 + n) (v := (if (((lk_lsA V n 0) 6 (n)) + ((lk_lsA V n 0) 1 (0))) < ((lk_lsA V n 0) 8 (n)) then (((lk_lsA V n 0) 6 (n)) + ((lk_lsA V n 0) 1 (0))) else ((lk_lsA V n 0) 8 (n)))) dX9_dayGoes_119 rfl (by decide) rfl (by omega) (by decide) ?_
        refine lk_sg (σ' := (lk_ms (lk_up (lk_up σ 1 22 0 0) 1 24 0 (-2)) (lk_ou (lk_lsA V n 0) 6 (n) (if (((lk_lsA V n 0) 6 (n)) + ((lk_lsA V n 0) 1 (0))) < ((lk_lsA V n 0) 8 (n)) then (((lk_lsA V n 0) 6 (n)) + ((lk_lsA V n 0) 1 (0))) else ((lk_lsA V n 0) 8 (n)))) T)) (lk_w6 (by omega) (by omega)) ?_
        refine lk_iload_n dX9_dayGoes_120 rfl rfl ?_
        refine lk_istore (L' := [(0, lk_vr 1 0), (1, lk_vi (nI (u))), (2, lk_vi (nI (e))), (3, lk_vi 0), (4, lk_vi (nI (n))), (5, lk_vi (nI (u)))]) dX9_dayGoes_121 (by decide +kernel) rfl ?_
        refine lk_iload_n dX9_dayGoes_123 rfl rfl ?_
        refine lk_istore (L' := [(0, lk_vr 1 0), (1, lk_vi (nI (u))), (2, lk_vi (nI (e))), (3, lk_vi 0), (4, lk_vi (nI (n))), (5, lk_vi (nI (u))), (6, lk_vi (nI (e)))]) dX9_dayGoes_124 (by decide +kernel) rfl ?_
        refine lk_iconst (v := 1) dX9_dayGoes_126 (by decide) ?_
        refine lk_istore (L' := [(0, lk_vr 1 0), (1, lk_vi (nI (u))), (2, lk_vi (nI (e))), (3, lk_vi 0), (4, lk_vi (nI (n))), (5, lk_vi (nI (u))), (6, lk_vi (nI (e))), (7, lk_vi 1)]) dX9_dayGoes_127 (by decide +kernel) rfl ?_
        have LP129 : ∀ (fu : Nat) (x y p c : Nat) (W : lk_N) (V1 U1 : lk_O), x ≤ u → y ≤ e → (x = 0 ∨ y = 0 ∨ (p = 1 ∧ u - x = e - y) ∨ (p = 0 ∧ u - x = e - y + 1)) → lk_all V1 n → lk_fx [6, 7, 8, 9, 10, 11, 22, 24] σ W → W 1 22 0 = nI c → W 1 24 0 = -2 → lk_kz σ W none → lk_day V T n u e = lk_dfi n u e (x + y) (u - x) (e - y) c (none, V1, U1) → x + y < fu → lk_W l X mX9_dayGoes (d + 5) 129 [(0, lk_vr 1 0), (1, lk_vi (nI (u))), (2, lk_vi (nI (e))), (3, lk_vi 0), (4, lk_vi (nI (n))), (5, lk_vi (nI (x))), (6, lk_vi (nI (y))), (7, lk_vi (nI (p)))] [] (lk_ms W V1 T) τ Q := by
          intro fu
          induction fu with
          | zero => intro x y p c W V1 U1 hx hy hp ha hWf hW2c hW4 hWk hI hfu; exact absurd hfu (by omega)
          | succ fu ih =>
            intro x y p c W V1 U1 hx hy hp ha hWf hW2c hW4 hWk hI hfu
            refine lk_iload dX9_dayGoes_129 rfl ?_
            refine lk_if_gtN (a := x) (tgt := 139) dX9_dayGoes_131 (by decide) (by omega) (fun hh2 => ?_) (fun hh2 => ?_)
            ·
              refine lk_iload dX9_dayGoes_139 rfl ?_
              refine lk_if_eqN (a := y) (tgt := 154) dX9_dayGoes_141 (by decide) (by omega) (fun hh3 => ?_) (fun hh3 => ?_)
              ·
                refine lk_iconst (v := 1) dX9_dayGoes_154 (by decide) ?_
                refine lk_goto (tgt := 159) dX9_dayGoes_155 (by decide) ?_
                refine lk_istore (L' := [(0, lk_vr 1 0), (1, lk_vi (nI (u))), (2, lk_vi (nI (e))), (3, lk_vi 0), (4, lk_vi (nI (n))), (5, lk_vi (nI (x))), (6, lk_vi (nI (y))), (7, lk_vi (nI (p))), (8, lk_vi 1)]) dX9_dayGoes_159 (by decide +kernel) rfl ?_
                refine lk_aload_n dX9_dayGoes_161 rfl rfl ?_
                refine lk_iload dX9_dayGoes_162 rfl ?_
                refine lk_iload_n dX9_dayGoes_164 rfl rfl ?_
                have hw : lk_way u e (u - x) (e - y) = true := by simp [lk_way]; omega
                have hm : x + y = (x + y - 1) + 1 := by omega
                have hjN : (lk_trv true 0 (lk_lks true 0 n) V1 T).1 = (lk_trv true 0 (lk_lks true 0 n) V1 U1).1 := lk_trv_t1 _ _ _ _
                have hjT : (lk_trv true 0 (lk_lks true 0 n) V1 T).2.1 = (lk_trv true 0 (lk_lks true 0 n) V1 U1).2.1 := lk_trv_t2 _ _ _ _
                have hjV : (lk_trv true 0 (lk_lks true 0 n) V1 T).2.2.1 = (lk_trv true 0 (lk_lks true 0 n) V1 U1).2.2.1 := lk_trv_t3 _ _ _ _
                rcases hj : (lk_trv true 0 (lk_lks true 0 n) V1 U1).2.1 with _ | kq
                ·
                  refine lk_callV (o := 1) (as := [lk_vi 1, lk_vi 0]) (S := []) dX9_dayGoes_165 rfl vX9_crosses rfl lX9_215 rfl rfl (Nat.le_of_ble_eq_true rfl) (tX9_crosses_up0 l X d W τ (V := V1) (T := T) (n := n) (hV := ha.1) (hr := ha.2.1)) ?_
                  refine lk_k4 (fun W2 hW2 => ?_)
                  refine lk_cast (pc' := 168) (S' := [lk_vi (lk_jb (lk_trv true 0 (lk_lks true 0 n) V1 T).2.1)]) rfl rfl rfl ?_
                  refine lk_eqtop (y := 1) (by rw [hjT, hj]; rfl) ?_
                  skip
                  refine lk_sg (σ' := (lk_ms W2 (lk_trv true 0 (lk_lks true 0 n) V1 U1).2.2.1 T)) (by rw [hjV]) ?_
                  refine lk_if_ne (tgt := 172) dX9_dayGoes_168 (by decide) (fun hh4 => ?_) (fun hh4 => absurd hh4 (by decide))
                  refine lk_iload dX9_dayGoes_172 rfl ?_
                  refine lk_if_eq (tgt := 183) dX9_dayGoes_174 (by decide) (fun hh5 => absurd hh5 (by decide)) (fun hh5 => ?_)
                  refine lk_idecN (a := x) (m := 1) (L' := [(0, lk_vr 1 0), (1, lk_vi (nI (u))), (2, lk_vi (nI (e))), (3, lk_vi 0), (4, lk_vi (nI (n))), (5, lk_vi (nI (x - 1))), (6, lk_vi (nI (y))), (7, lk_vi (nI (p))), (8, lk_vi 1)]) dX9_dayGoes_177 rfl rfl (by omega) (by decide +kernel) rfl ?_
                  refine lk_goto (tgt := 186) dX9_dayGoes_180 (by decide) ?_
                  refine lk_iload dX9_dayGoes_186 rfl ?_
                  refine lk_if_ne (tgt := 195) dX9_dayGoes_188 (by decide) (fun hh6 => ?_) (fun hh6 => absurd hh6 (by decide))
                  refine lk_iconst (v := 0) dX9_dayGoes_195 (by decide) ?_
                  refine lk_istore (L' := [(0, lk_vr 1 0), (1, lk_vi (nI (u))), (2, lk_vi (nI (e))), (3, lk_vi 0), (4, lk_vi (nI (n))), (5, lk_vi (nI (x - 1))), (6, lk_vi (nI (y))), (7, lk_vi 0), (8, lk_vi 1)]) dX9_dayGoes_196 (by decide +kernel) rfl ?_
                  refine lk_goto (tgt := 129) dX9_dayGoes_198 (by decide) ?_
                  refine lk_sub (L' := [(0, lk_vr 1 0), (1, lk_vi (nI (u))), (2, lk_vi (nI (e))), (3, lk_vi 0), (4, lk_vi (nI (n))), (5, lk_vi (nI (x - 1))), (6, lk_vi (nI (y))), (7, lk_vi 0)]) [0, 1, 2, 3, 4, 5, 6, 7] rfl ?_
                  rw [hjN, hjT] at hW2
                  obtain ⟨f1, f2, f3, f4⟩ := hW2
                  rw [hj] at f3 f4
                  have hq := lk_all_trv (up := true) (z := 0) (by decide) (by decide) (lk_lks true 0 n) V1 U1 (lk_lks_lt (by omega)) ha
                  rw [hm, lk_dfi_u n u e _ (u - x) (e - y) c V1 U1 hw, lk_day_eq _ hj] at hI
                  exact ih (x - 1) y 0 (c + (lk_trv true 0 (lk_lks true 0 n) V1 U1).1) W2 (lk_trv true 0 (lk_lks true 0 n) V1 U1).2.2.1 (lk_trv true 0 (lk_lks true 0 n) V1 U1).2.2.2 (by omega) (by omega) (by omega) hq (lk_fx_tr hWf f1) (by rw [f2, hW2c]; exact nI_add _ _) (f3.trans hW4) (lk_kz_no hWk (by simpa using f4)) (by rw [hI]; congr 1 <;> omega) (by omega)
                ·
                  refine lk_callV (o := 1) (as := [lk_vi 1, lk_vi 0]) (S := []) dX9_dayGoes_165 rfl vX9_crosses rfl lX9_215 rfl rfl (Nat.le_of_ble_eq_true rfl) (tX9_crosses_up0 l X d W τ (V := V1) (T := T) (n := n) (hV := ha.1) (hr := ha.2.1)) ?_
                  refine lk_k4 (fun W3 hW3 => ?_)
                  refine lk_cast (pc' := 168) (S' := [lk_vi (lk_jb (lk_trv true 0 (lk_lks true 0 n) V1 T).2.1)]) rfl rfl rfl ?_
                  refine lk_eqtop (y := 0) (by rw [hjT, hj]; rfl) ?_
                  skip
                  refine lk_sg (σ' := (lk_ms W3 (lk_trv true 0 (lk_lks true 0 n) V1 U1).2.2.1 T)) (by rw [hjV]) ?_
                  refine lk_if_ne (tgt := 172) dX9_dayGoes_168 (by decide) (fun hh7 => absurd hh7 (by decide)) (fun hh7 => ?_)
                  refine lk_vret dX9_dayGoes_171 rfl ?_
                  rw [hQ]
                  rw [hjN, hjT] at hW3
                  obtain ⟨f1, f2, f3, f4⟩ := hW3
                  rw [hj] at f3 f4
                  rw [hm, lk_dfi_u n u e _ (u - x) (e - y) c V1 U1 hw, lk_day_eq _ hj, lk_dfi_b] at hI
                  rw [hI]
                  exact ⟨rfl, rfl, W3, rfl, lk_fx_tr hWf f1, by rw [f2, hW2c]; exact nI_add _ _, f3, lk_kz_no hWk (by simpa using f4)⟩
              ·
                refine lk_iload dX9_dayGoes_144 rfl ?_
                refine lk_if_leN (a := x) (tgt := 158) dX9_dayGoes_146 (by decide) (by omega) (fun hh8 => ?_) (fun hh8 => ?_)
                ·
                  refine lk_iconst (v := 0) dX9_dayGoes_158 (by decide) ?_
                  refine lk_istore (L' := [(0, lk_vr 1 0), (1, lk_vi (nI (u))), (2, lk_vi (nI (e))), (3, lk_vi 0), (4, lk_vi (nI (n))), (5, lk_vi (nI (x))), (6, lk_vi (nI (y))), (7, lk_vi (nI (p))), (8, lk_vi 0)]) dX9_dayGoes_159 (by decide +kernel) rfl ?_
                  refine lk_aload_n dX9_dayGoes_161 rfl rfl ?_
                  refine lk_iload dX9_dayGoes_162 rfl ?_
                  refine lk_iload_n dX9_dayGoes_164 rfl rfl ?_
                  have hw : lk_way u e (u - x) (e - y) = false := by simp [lk_way]; omega
                  have hm : x + y = (x + y - 1) + 1 := by omega
                  have hjN : (lk_trv false 0 (lk_lks false n n) V1 T).1 = (lk_trv false 0 (lk_lks false n n) V1 U1).1 := lk_trv_t1 _ _ _ _
                  have hjT : (lk_trv false 0 (lk_lks false n n) V1 T).2.1 = (lk_trv false 0 (lk_lks false n n) V1 U1).2.1 := lk_trv_t2 _ _ _ _
                  have hjV : (lk_trv false 0 (lk_lks false n n) V1 T).2.2.1 = (lk_trv false 0 (lk_lks false n n) V1 U1).2.2.1 := lk_trv_t3 _ _ _ _
                  rcases hj : (lk_trv false 0 (lk_lks false n n) V1 U1).2.1 with _ | kq
                  ·
                    refine lk_callV (o := 1) (as := [lk_vi 0, lk_vi 0]) (S := []) dX9_dayGoes_165 rfl vX9_crosses rfl lX9_215 rfl rfl (Nat.le_of_ble_eq_true rfl) (tX9_crosses_dn0 l X d W τ (V := V1) (T := T) (n := n) (hV := ha.1) (hr := ha.2.1)) ?_
                    refine lk_k4 (fun W2 hW2 => ?_)
                    refine lk_cast (pc' := 168) (S' := [lk_vi (lk_jb (lk_trv false 0 (lk_lks false n n) V1 T).2.1)]) rfl rfl rfl ?_
                    refine lk_eqtop (y := 1) (by rw [hjT, hj]; rfl) ?_
                    skip
                    refine lk_sg (σ' := (lk_ms W2 (lk_trv false 0 (lk_lks false n n) V1 U1).2.2.1 T)) (by rw [hjV]) ?_
                    refine lk_if_ne (tgt := 172) dX9_dayGoes_168 (by decide) (fun hh9 => ?_) (fun hh9 => absurd hh9 (by decide))
                    refine lk_iload dX9_dayGoes_172 rfl ?_
                    refine lk_if_eq (tgt := 183) dX9_dayGoes_174 (by decide) (fun hh10 => ?_) (fun hh10 => absurd hh10 (by decide))
                    refine lk_idecN (a := y) (m := 1) (L' := [(0, lk_vr 1 0), (1, lk_vi (nI (u))), (2, lk_vi (nI (e))), (3, lk_vi 0), (4, lk_vi (nI (n))), (5, lk_vi (nI (x))), (6, lk_vi (nI (y - 1))), (7, lk_vi (nI (p))), (8, lk_vi 0)]) dX9_dayGoes_183 rfl rfl (by omega) (by decide +kernel) rfl ?_
                    refine lk_iload dX9_dayGoes_186 rfl ?_
                    refine lk_if_ne (tgt := 195) dX9_dayGoes_188 (by decide) (fun hh11 => absurd hh11 (by decide)) (fun hh11 => ?_)
                    refine lk_iconst (v := 1) dX9_dayGoes_191 (by decide) ?_
                    refine lk_goto (tgt := 196) dX9_dayGoes_192 (by decide) ?_
                    refine lk_istore (L' := [(0, lk_vr 1 0), (1, lk_vi (nI (u))), (2, lk_vi (nI (e))), (3, lk_vi 0), (4, lk_vi (nI (n))), (5, lk_vi (nI (x))), (6, lk_vi (nI (y - 1))), (7, lk_vi 1), (8, lk_vi 0)]) dX9_dayGoes_196 (by decide +kernel) rfl ?_
                    refine lk_goto (tgt := 129) dX9_dayGoes_198 (by decide) ?_
                    refine lk_sub (L' := [(0, lk_vr 1 0), (1, lk_vi (nI (u))), (2, lk_vi (nI (e))), (3, lk_vi 0), (4, lk_vi (nI (n))), (5, lk_vi (nI (x))), (6, lk_vi (nI (y - 1))), (7, lk_vi 1)]) [0, 1, 2, 3, 4, 5, 6, 7] rfl ?_
                    rw [hjN, hjT] at hW2
                    obtain ⟨f1, f2, f3, f4⟩ := hW2
                    rw [hj] at f3 f4
                    have hq := lk_all_trv (up := false) (z := 0) (by decide) (by decide) (lk_lks false n n) V1 U1 (lk_lks_lt (by omega)) ha
                    rw [hm, lk_dfi_d n u e _ (u - x) (e - y) c V1 U1 hw, lk_day_eq _ hj] at hI
                    exact ih x (y - 1) 1 (c + (lk_trv false 0 (lk_lks false n n) V1 U1).1) W2 (lk_trv false 0 (lk_lks false n n) V1 U1).2.2.1 (lk_trv false 0 (lk_lks false n n) V1 U1).2.2.2 (by omega) (by omega) (by omega) hq (lk_fx_tr hWf f1) (by rw [f2, hW2c]; exact nI_add _ _) (f3.trans hW4) (lk_kz_no hWk (by simpa using f4)) (by rw [hI]; congr 1 <;> omega) (by omega)
                  ·
                    refine lk_callV (o := 1) (as := [lk_vi 0, lk_vi 0]) (S := []) dX9_dayGoes_165 rfl vX9_crosses rfl lX9_215 rfl rfl (Nat.le_of_ble_eq_true rfl) (tX9_crosses_dn0 l X d W τ (V := V1) (T := T) (n := n) (hV := ha.1) (hr := ha.2.1)) ?_
                    refine lk_k4 (fun W3 hW3 => ?_)
                    refine lk_cast (pc' := 168) (S' := [lk_vi (lk_jb (lk_trv false 0 (lk_lks false n n) V1 T).2.1)]) rfl rfl rfl ?_
                    refine lk_eqtop (y := 0) (by rw [hjT, hj]; rfl) ?_
                    skip
                    refine lk_sg (σ' := (lk_ms W3 (lk_trv false 0 (lk_lks false n n) V1 U1).2.2.1 T)) (by rw [hjV]) ?_
                    refine lk_if_ne (tgt := 172) dX9_dayGoes_168 (by decide) (fun hh12 => absurd hh12 (by decide)) (fun hh12 => ?_)
                    refine lk_vret dX9_dayGoes_171 rfl ?_
                    rw [hQ]
                    rw [hjN, hjT] at hW3
                    obtain ⟨f1, f2, f3, f4⟩ := hW3
                    rw [hj] at f3 f4
                    rw [hm, lk_dfi_d n u e _ (u - x) (e - y) c V1 U1 hw, lk_day_eq _ hj, lk_dfi_b] at hI
                    rw [hI]
                    exact ⟨rfl, rfl, W3, rfl, lk_fx_tr hWf f1, by rw [f2, hW2c]; exact nI_add _ _, f3, lk_kz_no hWk (by simpa using f4)⟩
                ·
                  refine lk_iload dX9_dayGoes_149 rfl ?_
                  refine lk_if_eqN (a := p) (tgt := 158) dX9_dayGoes_151 (by decide) (by omega) (fun hh13 => ?_) (fun hh13 => ?_)
                  ·
                    refine lk_iconst (v := 0) dX9_dayGoes_158 (by decide) ?_
                    refine lk_istore (L' := [(0, lk_vr 1 0), (1, lk_vi (nI (u))), (2, lk_vi (nI (e))), (3, lk_vi 0), (4, lk_vi (nI (n))), (5, lk_vi (nI (x))), (6, lk_vi (nI (y))), (7, lk_vi (nI (p))), (8, lk_vi 0)]) dX9_dayGoes_159 (by decide +kernel) rfl ?_
                    refine lk_aload_n dX9_dayGoes_161 rfl rfl ?_
                    refine lk_iload dX9_dayGoes_162 rfl ?_
                    refine lk_iload_n dX9_dayGoes_164 rfl rfl ?_
                    have hw : lk_way u e (u - x) (e - y) = false := by simp [lk_way]; omega
                    have hm : x + y = (x + y - 1) + 1 := by omega
                    have hjN : (lk_trv false 0 (lk_lks false n n) V1 T).1 = (lk_trv false 0 (lk_lks false n n) V1 U1).1 := lk_trv_t1 _ _ _ _
                    have hjT : (lk_trv false 0 (lk_lks false n n) V1 T).2.1 = (lk_trv false 0 (lk_lks false n n) V1 U1).2.1 := lk_trv_t2 _ _ _ _
                    have hjV : (lk_trv false 0 (lk_lks false n n) V1 T).2.2.1 = (lk_trv false 0 (lk_lks false n n) V1 U1).2.2.1 := lk_trv_t3 _ _ _ _
                    rcases hj : (lk_trv false 0 (lk_lks false n n) V1 U1).2.1 with _ | kq
                    ·
                      refine lk_callV (o := 1) (as := [lk_vi 0, lk_vi 0]) (S := []) dX9_dayGoes_165 rfl vX9_crosses rfl lX9_215 rfl rfl (Nat.le_of_ble_eq_true rfl) (tX9_crosses_dn0 l X d W τ (V := V1) (T := T) (n := n) (hV := ha.1) (hr := ha.2.1)) ?_
                      refine lk_k4 (fun W2 hW2 => ?_)
                      refine lk_cast (pc' := 168) (S' := [lk_vi (lk_jb (lk_trv false 0 (lk_lks false n n) V1 T).2.1)]) rfl rfl rfl ?_
                      refine lk_eqtop (y := 1) (by rw [hjT, hj]; rfl) ?_
                      skip
                      refine lk_sg (σ' := (lk_ms W2 (lk_trv false 0 (lk_lks false n n) V1 U1).2.2.1 T)) (by rw [hjV]) ?_
                      refine lk_if_ne (tgt := 172) dX9_dayGoes_168 (by decide) (fun hh14 => ?_) (fun hh14 => absurd hh14 (by decide))
                      refine lk_iload dX9_dayGoes_172 rfl ?_
                      refine lk_if_eq (tgt := 183) dX9_dayGoes_174 (by decide) (fun hh15 => ?_) (fun hh15 => absurd hh15 (by decide))
                      refine lk_idecN (a := y) (m := 1) (L' := [(0, lk_vr 1 0), (1, lk_vi (nI (u))), (2, lk_vi (nI (e))), (3, lk_vi 0), (4, lk_vi (nI (n))), (5, lk_vi (nI (x))), (6, lk_vi (nI (y - 1))), (7, lk_vi (nI (p))), (8, lk_vi 0)]) dX9_dayGoes_183 rfl rfl (by omega) (by decide +kernel) rfl ?_
                      refine lk_iload dX9_dayGoes_186 rfl ?_
                      refine lk_if_ne (tgt := 195) dX9_dayGoes_188 (by decide) (fun hh16 => absurd hh16 (by decide)) (fun hh16 => ?_)
                      refine lk_iconst (v := 1) dX9_dayGoes_191 (by decide) ?_
                      refine lk_goto (tgt := 196) dX9_dayGoes_192 (by decide) ?_
                      refine lk_istore (L' := [(0, lk_vr 1 0), (1, lk_vi (nI (u))), (2, lk_vi (nI (e))), (3, lk_vi 0), (4, lk_vi (nI (n))), (5, lk_vi (nI (x))), (6, lk_vi (nI (y - 1))), (7, lk_vi 1), (8, lk_vi 0)]) dX9_dayGoes_196 (by decide +kernel) rfl ?_
                      refine lk_goto (tgt := 129) dX9_dayGoes_198 (by decide) ?_
                      refine lk_sub (L' := [(0, lk_vr 1 0), (1, lk_vi (nI (u))), (2, lk_vi (nI (e))), (3, lk_vi 0), (4, lk_vi (nI (n))), (5, lk_vi (nI (x))), (6, lk_vi (nI (y - 1))), (7, lk_vi 1)]) [0, 1, 2, 3, 4, 5, 6, 7] rfl ?_
                      rw [hjN, hjT] at hW2
                      obtain ⟨f1, f2, f3, f4⟩ := hW2
                      rw [hj] at f3 f4
                      have hq := lk_all_trv (up := false) (z := 0) (by decide) (by decide) (lk_lks false n n) V1 U1 (lk_lks_lt (by omega)) ha
                      rw [hm, lk_dfi_d n u e _ (u - x) (e - y) c V1 U1 hw, lk_day_eq _ hj] at hI
                      exact ih x (y - 1) 1 (c + (lk_trv false 0 (lk_lks false n n) V1 U1).1) W2 (lk_trv false 0 (lk_lks false n n) V1 U1).2.2.1 (lk_trv false 0 (lk_lks false n n) V1 U1).2.2.2 (by omega) (by omega) (by omega) hq (lk_fx_tr hWf f1) (by rw [f2, hW2c]; exact nI_add _ _) (f3.trans hW4) (lk_kz_no hWk (by simpa using f4)) (by rw [hI]; congr 1 <;> omega) (by omega)
                    ·
                      refine lk_callV (o := 1) (as := [lk_vi 0, lk_vi 0]) (S := []) dX9_dayGoes_165 rfl vX9_crosses rfl lX9_215 rfl rfl (Nat.le_of_ble_eq_true rfl) (tX9_crosses_dn0 l X d W τ (V := V1) (T := T) (n := n) (hV := ha.1) (hr := ha.2.1)) ?_
                      refine lk_k4 (fun W3 hW3 => ?_)
                      refine lk_cast (pc' := 168) (S' := [lk_vi (lk_jb (lk_trv false 0 (lk_lks false n n) V1 T).2.1)]) rfl rfl rfl ?_
                      refine lk_eqtop (y := 0) (by rw [hjT, hj]; rfl) ?_
                      skip
                      refine lk_sg (σ' := (lk_ms W3 (lk_trv false 0 (lk_lks false n n) V1 U1).2.2.1 T)) (by rw [hjV]) ?_
                      refine lk_if_ne (tgt := 172) dX9_dayGoes_168 (by decide) (fun hh17 => absurd hh17 (by decide)) (fun hh17 => ?_)
                      refine lk_vret dX9_dayGoes_171 rfl ?_
                      rw [hQ]
                      rw [hjN, hjT] at hW3
                      obtain ⟨f1, f2, f3, f4⟩ := hW3
                      rw [hj] at f3 f4
                      rw [hm, lk_dfi_d n u e _ (u - x) (e - y) c V1 U1 hw, lk_day_eq _ hj, lk_dfi_b] at hI
                      rw [hI]
                      exact ⟨rfl, rfl, W3, rfl, lk_fx_tr hWf f1, by rw [f2, hW2c]; exact nI_add _ _, f3, lk_kz_no hWk (by simpa using f4)⟩
                  ·
                    refine lk_iconst (v := 1) dX9_dayGoes_154 (by decide) ?_
                    refine lk_goto (tgt := 159) dX9_dayGoes_155 (by decide) ?_
                    refine lk_istore (L' := [(0, lk_vr 1 0), (1, lk_vi (nI (u))), (2, lk_vi (nI (e))), (3, lk_vi 0), (4, lk_vi (nI (n))), (5, lk_vi (nI (x))), (6, lk_vi (nI (y))), (7, lk_vi (nI (p))), (8, lk_vi 1)]) dX9_dayGoes_159 (by decide +kernel) rfl ?_
                    refine lk_aload_n dX9_dayGoes_161 rfl rfl ?_
                    refine lk_iload dX9_dayGoes_162 rfl ?_
                    refine lk_iload_n dX9_dayGoes_164 rfl rfl ?_
                    have hw : lk_way u e (u - x) (e - y) = true := by simp [lk_way]; omega
                    have hm : x + y = (x + y - 1) + 1 := by omega
                    have hjN : (lk_trv true 0 (lk_lks true 0 n) V1 T).1 = (lk_trv true 0 (lk_lks true 0 n) V1 U1).1 := lk_trv_t1 _ _ _ _
                    have hjT : (lk_trv true 0 (lk_lks true 0 n) V1 T).2.1 = (lk_trv true 0 (lk_lks true 0 n) V1 U1).2.1 := lk_trv_t2 _ _ _ _
                    have hjV : (lk_trv true 0 (lk_lks true 0 n) V1 T).2.2.1 = (lk_trv true 0 (lk_lks true 0 n) V1 U1).2.2.1 := lk_trv_t3 _ _ _ _
                    rcases hj : (lk_trv true 0 (lk_lks true 0 n) V1 U1).2.1 with _ | kq
                    ·
                      refine lk_callV (o := 1) (as := [lk_vi 1, lk_vi 0]) (S := []) dX9_dayGoes_165 rfl vX9_crosses rfl lX9_215 rfl rfl (Nat.le_of_ble_eq_true rfl) (tX9_crosses_up0 l X d W τ (V := V1) (T := T) (n := n) (hV := ha.1) (hr := ha.2.1)) ?_
                      refine lk_k4 (fun W2 hW2 => ?_)
                      refine lk_cast (pc' := 168) (S' := [lk_vi (lk_jb (lk_trv true 0 (lk_lks true 0 n) V1 T).2.1)]) rfl rfl rfl ?_
                      refine lk_eqtop (y := 1) (by rw [hjT, hj]; rfl) ?_
                      skip
                      refine lk_sg (σ' := (lk_ms W2 (lk_trv true 0 (lk_lks true 0 n) V1 U1).2.2.1 T)) (by rw [hjV]) ?_
                      refine lk_if_ne (tgt := 172) dX9_dayGoes_168 (by decide) (fun hh18 => ?_) (fun hh18 => absurd hh18 (by decide))
                      refine lk_iload dX9_dayGoes_172 rfl ?_
                      refine lk_if_eq (tgt := 183) dX9_dayGoes_174 (by decide) (fun hh19 => absurd hh19 (by decide)) (fun hh19 => ?_)
                      refine lk_idecN (a := x) (m := 1) (L' := [(0, lk_vr 1 0), (1, lk_vi (nI (u))), (2, lk_vi (nI (e))), (3, lk_vi 0), (4, lk_vi (nI (n))), (5, lk_vi (nI (x - 1))), (6, lk_vi (nI (y))), (7, lk_vi (nI (p))), (8, lk_vi 1)]) dX9_dayGoes_177 rfl rfl (by omega) (by decide +kernel) rfl ?_
                      refine lk_goto (tgt := 186) dX9_dayGoes_180 (by decide) ?_
                      refine lk_iload dX9_dayGoes_186 rfl ?_
                      refine lk_if_ne (tgt := 195) dX9_dayGoes_188 (by decide) (fun hh20 => ?_) (fun hh20 => absurd hh20 (by decide))
                      refine lk_iconst (v := 0) dX9_dayGoes_195 (by decide) ?_
                      refine lk_istore (L' := [(0, lk_vr 1 0), (1, lk_vi (nI (u))), (2, lk_vi (nI (e))), (3, lk_vi 0), (4, lk_vi (nI (n))), (5, lk_vi (nI (x - 1))), (6, lk_vi (nI (y))), (7, lk_vi 0), (8, lk_vi 1)]) dX9_dayGoes_196 (by decide +kernel) rfl ?_
                      refine lk_goto (tgt := 129) dX9_dayGoes_198 (by decide) ?_
                      refine lk_sub (L' := [(0, lk_vr 1 0), (1, lk_vi (nI (u))), (2, lk_vi (nI (e))), (3, lk_vi 0), (4, lk_vi (nI (n))), (5, lk_vi (nI (x - 1))), (6, lk_vi (nI (y))), (7, lk_vi 0)]) [0, 1, 2, 3, 4, 5, 6, 7] rfl ?_
                      rw [hjN, hjT] at hW2
                      obtain ⟨f1, f2, f3, f4⟩ := hW2
                      rw [hj] at f3 f4
                      have hq := lk_all_trv (up := true) (z := 0) (by decide) (by decide) (lk_lks true 0 n) V1 U1 (lk_lks_lt (by omega)) ha
                      rw [hm, lk_dfi_u n u e _ (u - x) (e - y) c V1 U1 hw, lk_day_eq _ hj] at hI
                      exact ih (x - 1) y 0 (c + (lk_trv true 0 (lk_lks true 0 n) V1 U1).1) W2 (lk_trv true 0 (lk_lks true 0 n) V1 U1).2.2.1 (lk_trv true 0 (lk_lks true 0 n) V1 U1).2.2.2 (by omega) (by omega) (by omega) hq (lk_fx_tr hWf f1) (by rw [f2, hW2c]; exact nI_add _ _) (f3.trans hW4) (lk_kz_no hWk (by simpa using f4)) (by rw [hI]; congr 1 <;> omega) (by omega)
                    ·
                      refine lk_callV (o := 1) (as := [lk_vi 1, lk_vi 0]) (S := []) dX9_dayGoes_165 rfl vX9_crosses rfl lX9_215 rfl rfl (Nat.le_of_ble_eq_true rfl) (tX9_crosses_up0 l X d W τ (V := V1) (T := T) (n := n) (hV := ha.1) (hr := ha.2.1)) ?_
                      refine lk_k4 (fun W3 hW3 => ?_)
                      refine lk_cast (pc' := 168) (S' := [lk_vi (lk_jb (lk_trv true 0 (lk_lks true 0 n) V1 T).2.1)]) rfl rfl rfl ?_
                      refine lk_eqtop (y := 0) (by rw [hjT, hj]; rfl) ?_
                      skip
                      refine lk_sg (σ' := (lk_ms W3 (lk_trv true 0 (lk_lks true 0 n) V1 U1).2.2.1 T)) (by rw [hjV]) ?_
                      refine lk_if_ne (tgt := 172) dX9_dayGoes_168 (by decide) (fun hh21 => absurd hh21 (by decide)) (fun hh21 => ?_)
                      refine lk_vret dX9_dayGoes_171 rfl ?_
                      rw [hQ]
                      rw [hjN, hjT] at hW3
                      obtain ⟨f1, f2, f3, f4⟩ := hW3
                      rw [hj] at f3 f4
                      rw [hm, lk_dfi_u n u e _ (u - x) (e - y) c V1 U1 hw, lk_day_eq _ hj, lk_dfi_b] at hI
                      rw [hI]
                      exact ⟨rfl, rfl, W3, rfl, lk_fx_tr hWf f1, by rw [f2, hW2c]; exact nI_add _ _, f3, lk_kz_no hWk (by simpa using f4)⟩
            ·
              refine lk_iload dX9_dayGoes_134 rfl ?_
              refine lk_if_leN (a := y) (tgt := 201) dX9_dayGoes_136 (by decide) (by omega) (fun hh22 => ?_) (fun hh22 => ?_)
              ·
                refine lk_vret dX9_dayGoes_201 rfl ?_
                rw [hQ]
                rw [show x + y = 0 by omega, lk_dfi_0] at hI
                rw [hI]
                exact ⟨rfl, rfl, W, rfl, hWf, hW2c, hW4, by simpa using hWk⟩
              ·
                refine lk_iload dX9_dayGoes_139 rfl ?_
                refine lk_if_eqN (a := y) (tgt := 154) dX9_dayGoes_141 (by decide) (by omega) (fun hh23 => ?_) (fun hh23 => ?_)
                ·
                  refine lk_iconst (v := 1) dX9_dayGoes_154 (by decide) ?_
                  refine lk_goto (tgt := 159) dX9_dayGoes_155 (by decide) ?_
                  refine lk_istore (L' := [(0, lk_vr 1 0), (1, lk_vi (nI (u))), (2, lk_vi (nI (e))), (3, lk_vi 0), (4, lk_vi (nI (n))), (5, lk_vi (nI (x))), (6, lk_vi (nI (y))), (7, lk_vi (nI (p))), (8, lk_vi 1)]) dX9_dayGoes_159 (by decide +kernel) rfl ?_
                  refine lk_aload_n dX9_dayGoes_161 rfl rfl ?_
                  refine lk_iload dX9_dayGoes_162 rfl ?_
                  refine lk_iload_n dX9_dayGoes_164 rfl rfl ?_
                  have hw : lk_way u e (u - x) (e - y) = true := by simp [lk_way]; omega
                  have hm : x + y = (x + y - 1) + 1 := by omega
                  have hjN : (lk_trv true 0 (lk_lks true 0 n) V1 T).1 = (lk_trv true 0 (lk_lks true 0 n) V1 U1).1 := lk_trv_t1 _ _ _ _
                  have hjT : (lk_trv true 0 (lk_lks true 0 n) V1 T).2.1 = (lk_trv true 0 (lk_lks true 0 n) V1 U1).2.1 := lk_trv_t2 _ _ _ _
                  have hjV : (lk_trv true 0 (lk_lks true 0 n) V1 T).2.2.1 = (lk_trv true 0 (lk_lks true 0 n) V1 U1).2.2.1 := lk_trv_t3 _ _ _ _
                  rcases hj : (lk_trv true 0 (lk_lks true 0 n) V1 U1).2.1 with _ | kq
                  ·
                    refine lk_callV (o := 1) (as := [lk_vi 1, lk_vi 0]) (S := []) dX9_dayGoes_165 rfl vX9_crosses rfl lX9_215 rfl rfl (Nat.le_of_ble_eq_true rfl) (tX9_crosses_up0 l X d W τ (V := V1) (T := T) (n := n) (hV := ha.1) (hr := ha.2.1)) ?_
                    refine lk_k4 (fun W2 hW2 => ?_)
                    refine lk_cast (pc' := 168) (S' := [lk_vi (lk_jb (lk_trv true 0 (lk_lks true 0 n) V1 T).2.1)]) rfl rfl rfl ?_
                    refine lk_eqtop (y := 1) (by rw [hjT, hj]; rfl) ?_
                    skip
                    refine lk_sg (σ' := (lk_ms W2 (lk_trv true 0 (lk_lks true 0 n) V1 U1).2.2.1 T)) (by rw [hjV]) ?_
                    refine lk_if_ne (tgt := 172) dX9_dayGoes_168 (by decide) (fun hh24 => ?_) (fun hh24 => absurd hh24 (by decide))
                    refine lk_iload dX9_dayGoes_172 rfl ?_
                    refine lk_if_eq (tgt := 183) dX9_dayGoes_174 (by decide) (fun hh25 => absurd hh25 (by decide)) (fun hh25 => ?_)
                    refine lk_idecN (a := x) (m := 1) (L' := [(0, lk_vr 1 0), (1, lk_vi (nI (u))), (2, lk_vi (nI (e))), (3, lk_vi 0), (4, lk_vi (nI (n))), (5, lk_vi (nI (x - 1))), (6, lk_vi (nI (y))), (7, lk_vi (nI (p))), (8, lk_vi 1)]) dX9_dayGoes_177 rfl rfl (by omega) (by decide +kernel) rfl ?_
                    refine lk_goto (tgt := 186) dX9_dayGoes_180 (by decide) ?_
                    refine lk_iload dX9_dayGoes_186 rfl ?_
                    refine lk_if_ne (tgt := 195) dX9_dayGoes_188 (by decide) (fun hh26 => ?_) (fun hh26 => absurd hh26 (by decide))
                    refine lk_iconst (v := 0) dX9_dayGoes_195 (by decide) ?_
                    refine lk_istore (L' := [(0, lk_vr 1 0), (1, lk_vi (nI (u))), (2, lk_vi (nI (e))), (3, lk_vi 0), (4, lk_vi (nI (n))), (5, lk_vi (nI (x - 1))), (6, lk_vi (nI (y))), (7, lk_vi 0), (8, lk_vi 1)]) dX9_dayGoes_196 (by decide +kernel) rfl ?_
                    refine lk_goto (tgt := 129) dX9_dayGoes_198 (by decide) ?_
                    refine lk_sub (L' := [(0, lk_vr 1 0), (1, lk_vi (nI (u))), (2, lk_vi (nI (e))), (3, lk_vi 0), (4, lk_vi (nI (n))), (5, lk_vi (nI (x - 1))), (6, lk_vi (nI (y))), (7, lk_vi 0)]) [0, 1, 2, 3, 4, 5, 6, 7] rfl ?_
                    rw [hjN, hjT] at hW2
                    obtain ⟨f1, f2, f3, f4⟩ := hW2
                    rw [hj] at f3 f4
                    have hq := lk_all_trv (up := true) (z := 0) (by decide) (by decide) (lk_lks true 0 n) V1 U1 (lk_lks_lt (by omega)) ha
                    rw [hm, lk_dfi_u n u e _ (u - x) (e - y) c V1 U1 hw, lk_day_eq _ hj] at hI
                    exact ih (x - 1) y 0 (c + (lk_trv true 0 (lk_lks true 0 n) V1 U1).1) W2 (lk_trv true 0 (lk_lks true 0 n) V1 U1).2.2.1 (lk_trv true 0 (lk_lks true 0 n) V1 U1).2.2.2 (by omega) (by omega) (by omega) hq (lk_fx_tr hWf f1) (by rw [f2, hW2c]; exact nI_add _ _) (f3.trans hW4) (lk_kz_no hWk (by simpa using f4)) (by rw [hI]; congr 1 <;> omega) (by omega)
                  ·
                    refine lk_callV (o := 1) (as := [lk_vi 1, lk_vi 0]) (S := []) dX9_dayGoes_165 rfl vX9_crosses rfl lX9_215 rfl rfl (Nat.le_of_ble_eq_true rfl) (tX9_crosses_up0 l X d W τ (V := V1) (T := T) (n := n) (hV := ha.1) (hr := ha.2.1)) ?_
                    refine lk_k4 (fun W3 hW3 => ?_)
                    refine lk_cast (pc' := 168) (S' := [lk_vi (lk_jb (lk_trv true 0 (lk_lks true 0 n) V1 T).2.1)]) rfl rfl rfl ?_
                    refine lk_eqtop (y := 0) (by rw [hjT, hj]; rfl) ?_
                    skip
                    refine lk_sg (σ' := (lk_ms W3 (lk_trv true 0 (lk_lks true 0 n) V1 U1).2.2.1 T)) (by rw [hjV]) ?_
                    refine lk_if_ne (tgt := 172) dX9_dayGoes_168 (by decide) (fun hh27 => absurd hh27 (by decide)) (fun hh27 => ?_)
                    refine lk_vret dX9_dayGoes_171 rfl ?_
                    rw [hQ]
                    rw [hjN, hjT] at hW3
                    obtain ⟨f1, f2, f3, f4⟩ := hW3
                    rw [hj] at f3 f4
                    rw [hm, lk_dfi_u n u e _ (u - x) (e - y) c V1 U1 hw, lk_day_eq _ hj, lk_dfi_b] at hI
                    rw [hI]
                    exact ⟨rfl, rfl, W3, rfl, lk_fx_tr hWf f1, by rw [f2, hW2c]; exact nI_add _ _, f3, lk_kz_no hWk (by simpa using f4)⟩
                ·
                  refine lk_iload dX9_dayGoes_144 rfl ?_
                  refine lk_if_leN (a := x) (tgt := 158) dX9_dayGoes_146 (by decide) (by omega) (fun hh28 => ?_) (fun hh28 => ?_)
                  ·
                    refine lk_iconst (v := 0) dX9_dayGoes_158 (by decide) ?_
                    refine lk_istore (L' := [(0, lk_vr 1 0), (1, lk_vi (nI (u))), (2, lk_vi (nI (e))), (3, lk_vi 0), (4, lk_vi (nI (n))), (5, lk_vi (nI (x))), (6, lk_vi (nI (y))), (7, lk_vi (nI (p))), (8, lk_vi 0)]) dX9_dayGoes_159 (by decide +kernel) rfl ?_
                    refine lk_aload_n dX9_dayGoes_161 rfl rfl ?_
                    refine lk_iload dX9_dayGoes_162 rfl ?_
                    refine lk_iload_n dX9_dayGoes_164 rfl rfl ?_
                    have hw : lk_way u e (u - x) (e - y) = false := by simp [lk_way]; omega
                    have hm : x + y = (x + y - 1) + 1 := by omega
                    have hjN : (lk_trv false 0 (lk_lks false n n) V1 T).1 = (lk_trv false 0 (lk_lks false n n) V1 U1).1 := lk_trv_t1 _ _ _ _
                    have hjT : (lk_trv false 0 (lk_lks false n n) V1 T).2.1 = (lk_trv false 0 (lk_lks false n n) V1 U1).2.1 := lk_trv_t2 _ _ _ _
                    have hjV : (lk_trv false 0 (lk_lks false n n) V1 T).2.2.1 = (lk_trv false 0 (lk_lks false n n) V1 U1).2.2.1 := lk_trv_t3 _ _ _ _
                    rcases hj : (lk_trv false 0 (lk_lks false n n) V1 U1).2.1 with _ | kq
                    ·
                      refine lk_callV (o := 1) (as := [lk_vi 0, lk_vi 0]) (S := []) dX9_dayGoes_165 rfl vX9_crosses rfl lX9_215 rfl rfl (Nat.le_of_ble_eq_true rfl) (tX9_crosses_dn0 l X d W τ (V := V1) (T := T) (n := n) (hV := ha.1) (hr := ha.2.1)) ?_
                      refine lk_k4 (fun W2 hW2 => ?_)
                      refine lk_cast (pc' := 168) (S' := [lk_vi (lk_jb (lk_trv false 0 (lk_lks false n n) V1 T).2.1)]) rfl rfl rfl ?_
                      refine lk_eqtop (y := 1) (by rw [hjT, hj]; rfl) ?_
                      skip
                      refine lk_sg (σ' := (lk_ms W2 (lk_trv false 0 (lk_lks false n n) V1 U1).2.2.1 T)) (by rw [hjV]) ?_
                      refine lk_if_ne (tgt := 172) dX9_dayGoes_168 (by decide) (fun hh29 => ?_) (fun hh29 => absurd hh29 (by decide))
                      refine lk_iload dX9_dayGoes_172 rfl ?_
                      refine lk_if_eq (tgt := 183) dX9_dayGoes_174 (by decide) (fun hh30 => ?_) (fun hh30 => absurd hh30 (by decide))
                      refine lk_idecN (a := y) (m := 1) (L' := [(0, lk_vr 1 0), (1, lk_vi (nI (u))), (2, lk_vi (nI (e))), (3, lk_vi 0), (4, lk_vi (nI (n))), (5, lk_vi (nI (x))), (6, lk_vi (nI (y - 1))), (7, lk_vi (nI (p))), (8, lk_vi 0)]) dX9_dayGoes_183 rfl rfl (by omega) (by decide +kernel) rfl ?_
                      refine lk_iload dX9_dayGoes_186 rfl ?_
                      refine lk_if_ne (tgt := 195) dX9_dayGoes_188 (by decide) (fun hh31 => absurd hh31 (by decide)) (fun hh31 => ?_)
                      refine lk_iconst (v := 1) dX9_dayGoes_191 (by decide) ?_
                      refine lk_goto (tgt := 196) dX9_dayGoes_192 (by decide) ?_
                      refine lk_istore (L' := [(0, lk_vr 1 0), (1, lk_vi (nI (u))), (2, lk_vi (nI (e))), (3, lk_vi 0), (4, lk_vi (nI (n))), (5, lk_vi (nI (x))), (6, lk_vi (nI (y - 1))), (7, lk_vi 1), (8, lk_vi 0)]) dX9_dayGoes_196 (by decide +kernel) rfl ?_
                      refine lk_goto (tgt := 129) dX9_dayGoes_198 (by decide) ?_
                      refine lk_sub (L' := [(0, lk_vr 1 0), (1, lk_vi (nI (u))), (2, lk_vi (nI (e))), (3, lk_vi 0), (4, lk_vi (nI (n))), (5, lk_vi (nI (x))), (6, lk_vi (nI (y - 1))), (7, lk_vi 1)]) [0, 1, 2, 3, 4, 5, 6, 7] rfl ?_
                      rw [hjN, hjT] at hW2
                      obtain ⟨f1, f2, f3, f4⟩ := hW2
                      rw [hj] at f3 f4
                      have hq := lk_all_trv (up := false) (z := 0) (by decide) (by decide) (lk_lks false n n) V1 U1 (lk_lks_lt (by omega)) ha
                      rw [hm, lk_dfi_d n u e _ (u - x) (e - y) c V1 U1 hw, lk_day_eq _ hj] at hI
                      exact ih x (y - 1) 1 (c + (lk_trv false 0 (lk_lks false n n) V1 U1).1) W2 (lk_trv false 0 (lk_lks false n n) V1 U1).2.2.1 (lk_trv false 0 (lk_lks false n n) V1 U1).2.2.2 (by omega) (by omega) (by omega) hq (lk_fx_tr hWf f1) (by rw [f2, hW2c]; exact nI_add _ _) (f3.trans hW4) (lk_kz_no hWk (by simpa using f4)) (by rw [hI]; congr 1 <;> omega) (by omega)
                    ·
                      refine lk_callV (o := 1) (as := [lk_vi 0, lk_vi 0]) (S := []) dX9_dayGoes_165 rfl vX9_crosses rfl lX9_215 rfl rfl (Nat.le_of_ble_eq_true rfl) (tX9_crosses_dn0 l X d W τ (V := V1) (T := T) (n := n) (hV := ha.1) (hr := ha.2.1)) ?_
                      refine lk_k4 (fun W3 hW3 => ?_)
                      refine lk_cast (pc' := 168) (S' := [lk_vi (lk_jb (lk_trv false 0 (lk_lks false n n) V1 T).2.1)]) rfl rfl rfl ?_
                      refine lk_eqtop (y := 0) (by rw [hjT, hj]; rfl) ?_
                      skip
                      refine lk_sg (σ' := (lk_ms W3 (lk_trv false 0 (lk_lks false n n) V1 U1).2.2.1 T)) (by rw [hjV]) ?_
                      refine lk_if_ne (tgt := 172) dX9_dayGoes_168 (by decide) (fun hh32 => absurd hh32 (by decide)) (fun hh32 => ?_)
                      refine lk_vret dX9_dayGoes_171 rfl ?_
                      rw [hQ]
                      rw [hjN, hjT] at hW3
                      obtain ⟨f1, f2, f3, f4⟩ := hW3
                      rw [hj] at f3 f4
                      rw [hm, lk_dfi_d n u e _ (u - x) (e - y) c V1 U1 hw, lk_day_eq _ hj, lk_dfi_b] at hI
                      rw [hI]
                      exact ⟨rfl, rfl, W3, rfl, lk_fx_tr hWf f1, by rw [f2, hW2c]; exact nI_add _ _, f3, lk_kz_no hWk (by simpa using f4)⟩
                  ·
                    refine lk_iload dX9_dayGoes_149 rfl ?_
                    refine lk_if_eqN (a := p) (tgt := 158) dX9_dayGoes_151 (by decide) (by omega) (fun hh33 => ?_) (fun hh33 => ?_)
                    ·
                      refine lk_iconst (v := 0) dX9_dayGoes_158 (by decide) ?_
                      refine lk_istore (L' := [(0, lk_vr 1 0), (1, lk_vi (nI (u))), (2, lk_vi (nI (e))), (3, lk_vi 0), (4, lk_vi (nI (n))), (5, lk_vi (nI (x))), (6, lk_vi (nI (y))), (7, lk_vi (nI (p))), (8, lk_vi 0)]) dX9_dayGoes_159 (by decide +kernel) rfl ?_
                      refine lk_aload_n dX9_dayGoes_161 rfl rfl ?_
                      refine lk_iload dX9_dayGoes_162 rfl ?_
                      refine lk_iload_n dX9_dayGoes_164 rfl rfl ?_
                      have hw : lk_way u e (u - x) (e - y) = false := by simp [lk_way]; omega
                      have hm : x + y = (x + y - 1) + 1 := by omega
                      have hjN : (lk_trv false 0 (lk_lks false n n) V1 T).1 = (lk_trv false 0 (lk_lks false n n) V1 U1).1 := lk_trv_t1 _ _ _ _
                      have hjT : (lk_trv false 0 (lk_lks false n n) V1 T).2.1 = (lk_trv false 0 (lk_lks false n n) V1 U1).2.1 := lk_trv_t2 _ _ _ _
                      have hjV : (lk_trv false 0 (lk_lks false n n) V1 T).2.2.1 = (lk_trv false 0 (lk_lks false n n) V1 U1).2.2.1 := lk_trv_t3 _ _ _ _
                      rcases hj : (lk_trv false 0 (lk_lks false n n) V1 U1).2.1 with _ | kq
                      ·
                        refine lk_callV (o := 1) (as := [lk_vi 0, lk_vi 0]) (S := []) dX9_dayGoes_165 rfl vX9_crosses rfl lX9_215 rfl rfl (Nat.le_of_ble_eq_true rfl) (tX9_crosses_dn0 l X d W τ (V := V1) (T := T) (n := n) (hV := ha.1) (hr := ha.2.1)) ?_
                        refine lk_k4 (fun W2 hW2 => ?_)
                        refine lk_cast (pc' := 168) (S' := [lk_vi (lk_jb (lk_trv false 0 (lk_lks false n n) V1 T).2.1)]) rfl rfl rfl ?_
                        refine lk_eqtop (y := 1) (by rw [hjT, hj]; rfl) ?_
                        skip
                        refine lk_sg (σ' := (lk_ms W2 (lk_trv false 0 (lk_lks false n n) V1 U1).2.2.1 T)) (by rw [hjV]) ?_
                        refine lk_if_ne (tgt := 172) dX9_dayGoes_168 (by decide) (fun hh34 => ?_) (fun hh34 => absurd hh34 (by decide))
                        refine lk_iload dX9_dayGoes_172 rfl ?_
                        refine lk_if_eq (tgt := 183) dX9_dayGoes_174 (by decide) (fun hh35 => ?_) (fun hh35 => absurd hh35 (by decide))
                        refine lk_idecN (a := y) (m := 1) (L' := [(0, lk_vr 1 0), (1, lk_vi (nI (u))), (2, lk_vi (nI (e))), (3, lk_vi 0), (4, lk_vi (nI (n))), (5, lk_vi (nI (x))), (6, lk_vi (nI (y - 1))), (7, lk_vi (nI (p))), (8, lk_vi 0)]) dX9_dayGoes_183 rfl rfl (by omega) (by decide +kernel) rfl ?_
                        refine lk_iload dX9_dayGoes_186 rfl ?_
                        refine lk_if_ne (tgt := 195) dX9_dayGoes_188 (by decide) (fun hh36 => absurd hh36 (by decide)) (fun hh36 => ?_)
                        refine lk_iconst (v := 1) dX9_dayGoes_191 (by decide) ?_
                        refine lk_goto (tgt := 196) dX9_dayGoes_192 (by decide) ?_
                        refine lk_istore (L' := [(0, lk_vr 1 0), (1, lk_vi (nI (u))), (2, lk_vi (nI (e))), (3, lk_vi 0), (4, lk_vi (nI (n))), (5, lk_vi (nI (x))), (6, lk_vi (nI (y - 1))), (7, lk_vi 1), (8, lk_vi 0)]) dX9_dayGoes_196 (by decide +kernel) rfl ?_
                        refine lk_goto (tgt := 129) dX9_dayGoes_198 (by decide) ?_
                        refine lk_sub (L' := [(0, lk_vr 1 0), (1, lk_vi (nI (u))), (2, lk_vi (nI (e))), (3, lk_vi 0), (4, lk_vi (nI (n))), (5, lk_vi (nI (x))), (6, lk_vi (nI (y - 1))), (7, lk_vi 1)]) [0, 1, 2, 3, 4, 5, 6, 7] rfl ?_
                        rw [hjN, hjT] at hW2
                        obtain ⟨f1, f2, f3, f4⟩ := hW2
                        rw [hj] at f3 f4
                        have hq := lk_all_trv (up := false) (z := 0) (by decide) (by decide) (lk_lks false n n) V1 U1 (lk_lks_lt (by omega)) ha
                        rw [hm, lk_dfi_d n u e _ (u - x) (e - y) c V1 U1 hw, lk_day_eq _ hj] at hI
                        exact ih x (y - 1) 1 (c + (lk_trv false 0 (lk_lks false n n) V1 U1).1) W2 (lk_trv false 0 (lk_lks false n n) V1 U1).2.2.1 (lk_trv false 0 (lk_lks false n n) V1 U1).2.2.2 (by omega) (by omega) (by omega) hq (lk_fx_tr hWf f1) (by rw [f2, hW2c]; exact nI_add _ _) (f3.trans hW4) (lk_kz_no hWk (by simpa using f4)) (by rw [hI]; congr 1 <;> omega) (by omega)
                      ·
                        refine lk_callV (o := 1) (as := [lk_vi 0, lk_vi 0]) (S := []) dX9_dayGoes_165 rfl vX9_crosses rfl lX9_215 rfl rfl (Nat.le_of_ble_eq_true rfl) (tX9_crosses_dn0 l X d W τ (V := V1) (T := T) (n := n) (hV := ha.1) (hr := ha.2.1)) ?_
                        refine lk_k4 (fun W3 hW3 => ?_)
                        refine lk_cast (pc' := 168) (S' := [lk_vi (lk_jb (lk_trv false 0 (lk_lks false n n) V1 T).2.1)]) rfl rfl rfl ?_
                        refine lk_eqtop (y := 0) (by rw [hjT, hj]; rfl) ?_
                        skip
                        refine lk_sg (σ' := (lk_ms W3 (lk_trv false 0 (lk_lks false n n) V1 U1).2.2.1 T)) (by rw [hjV]) ?_
                        refine lk_if_ne (tgt := 172) dX9_dayGoes_168 (by decide) (fun hh37 => absurd hh37 (by decide)) (fun hh37 => ?_)
                        refine lk_vret dX9_dayGoes_171 rfl ?_
                        rw [hQ]
                        rw [hjN, hjT] at hW3
                        obtain ⟨f1, f2, f3, f4⟩ := hW3
                        rw [hj] at f3 f4
                        rw [hm, lk_dfi_d n u e _ (u - x) (e - y) c V1 U1 hw, lk_day_eq _ hj, lk_dfi_b] at hI
                        rw [hI]
                        exact ⟨rfl, rfl, W3, rfl, lk_fx_tr hWf f1, by rw [f2, hW2c]; exact nI_add _ _, f3, lk_kz_no hWk (by simpa using f4)⟩
                    ·
                      refine lk_iconst (v := 1) dX9_dayGoes_154 (by decide) ?_
                      refine lk_goto (tgt := 159) dX9_dayGoes_155 (by decide) ?_
                      refine lk_istore (L' := [(0, lk_vr 1 0), (1, lk_vi (nI (u))), (2, lk_vi (nI (e))), (3, lk_vi 0), (4, lk_vi (nI (n))), (5, lk_vi (nI (x))), (6, lk_vi (nI (y))), (7, lk_vi (nI (p))), (8, lk_vi 1)]) dX9_dayGoes_159 (by decide +kernel) rfl ?_
                      refine lk_aload_n dX9_dayGoes_161 rfl rfl ?_
                      refine lk_iload dX9_dayGoes_162 rfl ?_
                      refine lk_iload_n dX9_dayGoes_164 rfl rfl ?_
                      have hw : lk_way u e (u - x) (e - y) = true := by simp [lk_way]; omega
                      have hm : x + y = (x + y - 1) + 1 := by omega
                      have hjN : (lk_trv true 0 (lk_lks true 0 n) V1 T).1 = (lk_trv true 0 (lk_lks true 0 n) V1 U1).1 := lk_trv_t1 _ _ _ _
                      have hjT : (lk_trv true 0 (lk_lks true 0 n) V1 T).2.1 = (lk_trv true 0 (lk_lks true 0 n) V1 U1).2.1 := lk_trv_t2 _ _ _ _
                      have hjV : (lk_trv true 0 (lk_lks true 0 n) V1 T).2.2.1 = (lk_trv true 0 (lk_lks true 0 n) V1 U1).2.2.1 := lk_trv_t3 _ _ _ _
                      rcases hj : (lk_trv true 0 (lk_lks true 0 n) V1 U1).2.1 with _ | kq
                      ·
                        refine lk_callV (o := 1) (as := [lk_vi 1, lk_vi 0]) (S := []) dX9_dayGoes_165 rfl vX9_crosses rfl lX9_215 rfl rfl (Nat.le_of_ble_eq_true rfl) (tX9_crosses_up0 l X d W τ (V := V1) (T := T) (n := n) (hV := ha.1) (hr := ha.2.1)) ?_
                        refine lk_k4 (fun W2 hW2 => ?_)
                        refine lk_cast (pc' := 168) (S' := [lk_vi (lk_jb (lk_trv true 0 (lk_lks true 0 n) V1 T).2.1)]) rfl rfl rfl ?_
                        refine lk_eqtop (y := 1) (by rw [hjT, hj]; rfl) ?_
                        skip
                        refine lk_sg (σ' := (lk_ms W2 (lk_trv true 0 (lk_lks true 0 n) V1 U1).2.2.1 T)) (by rw [hjV]) ?_
                        refine lk_if_ne (tgt := 172) dX9_dayGoes_168 (by decide) (fun hh38 => ?_) (fun hh38 => absurd hh38 (by decide))
                        refine lk_iload dX9_dayGoes_172 rfl ?_
                        refine lk_if_eq (tgt := 183) dX9_dayGoes_174 (by decide) (fun hh39 => absurd hh39 (by decide)) (fun hh39 => ?_)
                        refine lk_idecN (a := x) (m := 1) (L' := [(0, lk_vr 1 0), (1, lk_vi (nI (u))), (2, lk_vi (nI (e))), (3, lk_vi 0), (4, lk_vi (nI (n))), (5, lk_vi (nI (x - 1))), (6, lk_vi (nI (y))), (7, lk_vi (nI (p))), (8, lk_vi 1)]) dX9_dayGoes_177 rfl rfl (by omega) (by decide +kernel) rfl ?_
                        refine lk_goto (tgt := 186) dX9_dayGoes_180 (by decide) ?_
                        refine lk_iload dX9_dayGoes_186 rfl ?_
                        refine lk_if_ne (tgt := 195) dX9_dayGoes_188 (by decide) (fun hh40 => ?_) (fun hh40 => absurd hh40 (by decide))
                        refine lk_iconst (v := 0) dX9_dayGoes_195 (by decide) ?_
                        refine lk_istore (L' := [(0, lk_vr 1 0), (1, lk_vi (nI (u))), (2, lk_vi (nI (e))), (3, lk_vi 0), (4, lk_vi (nI (n))), (5, lk_vi (nI (x - 1))), (6, lk_vi (nI (y))), (7, lk_vi 0), (8, lk_vi 1)]) dX9_dayGoes_196 (by decide +kernel) rfl ?_
                        refine lk_goto (tgt := 129) dX9_dayGoes_198 (by decide) ?_
                        refine lk_sub (L' := [(0, lk_vr 1 0), (1, lk_vi (nI (u))), (2, lk_vi (nI (e))), (3, lk_vi 0), (4, lk_vi (nI (n))), (5, lk_vi (nI (x - 1))), (6, lk_vi (nI (y))), (7, lk_vi 0)]) [0, 1, 2, 3, 4, 5, 6, 7] rfl ?_
                        rw [hjN, hjT] at hW2
                        obtain ⟨f1, f2, f3, f4⟩ := hW2
                        rw [hj] at f3 f4
                        have hq := lk_all_trv (up := true) (z := 0) (by decide) (by decide) (lk_lks true 0 n) V1 U1 (lk_lks_lt (by omega)) ha
                        rw [hm, lk_dfi_u n u e _ (u - x) (e - y) c V1 U1 hw, lk_day_eq _ hj] at hI
                        exact ih (x - 1) y 0 (c + (lk_trv true 0 (lk_lks true 0 n) V1 U1).1) W2 (lk_trv true 0 (lk_lks true 0 n) V1 U1).2.2.1 (lk_trv true 0 (lk_lks true 0 n) V1 U1).2.2.2 (by omega) (by omega) (by omega) hq (lk_fx_tr hWf f1) (by rw [f2, hW2c]; exact nI_add _ _) (f3.trans hW4) (lk_kz_no hWk (by simpa using f4)) (by rw [hI]; congr 1 <;> omega) (by omega)
                      ·
                        refine lk_callV (o := 1) (as := [lk_vi 1, lk_vi 0]) (S := []) dX9_dayGoes_165 rfl vX9_crosses rfl lX9_215 rfl rfl (Nat.le_of_ble_eq_true rfl) (tX9_crosses_up0 l X d W τ (V := V1) (T := T) (n := n) (hV := ha.1) (hr := ha.2.1)) ?_
                        refine lk_k4 (fun W3 hW3 => ?_)
                        refine lk_cast (pc' := 168) (S' := [lk_vi (lk_jb (lk_trv true 0 (lk_lks true 0 n) V1 T).2.1)]) rfl rfl rfl ?_
                        refine lk_eqtop (y := 0) (by rw [hjT, hj]; rfl) ?_
                        skip
                        refine lk_sg (σ' := (lk_ms W3 (lk_trv true 0 (lk_lks true 0 n) V1 U1).2.2.1 T)) (by rw [hjV]) ?_
                        refine lk_if_ne (tgt := 172) dX9_dayGoes_168 (by decide) (fun hh41 => absurd hh41 (by decide)) (fun hh41 => ?_)
                        refine lk_vret dX9_dayGoes_171 rfl ?_
                        rw [hQ]
                        rw [hjN, hjT] at hW3
                        obtain ⟨f1, f2, f3, f4⟩ := hW3
                        rw [hj] at f3 f4
                        rw [hm, lk_dfi_u n u e _ (u - x) (e - y) c V1 U1 hw, lk_day_eq _ hj, lk_dfi_b] at hI
                        rw [hI]
                        exact ⟨rfl, rfl, W3, rfl, lk_fx_tr hWf f1, by rw [f2, hW2c]; exact nI_add _ _, f3, lk_kz_no hWk (by simpa using f4)⟩
        refine lk_sg (σ' := (lk_ms (lk_up (lk_up σ 1 22 0 0) 1 24 0 (-2)) (lk_ou (lk_lag V n) 12 0 0) T)) (by rw [lk_ms_12, lk_lsA_t]) ?_
        exact LP129 (u + e + 1) u e 1 0 (lk_up (lk_up σ 1 22 0 0) 1 24 0 (-2)) _ T (by omega) (by omega) (by omega) (lk_all_lag ha0) (lk_fx_up (lk_fx_up (lk_fx_rf _ _) (by decide)) (by decide)) rfl rfl ⟨rfl, rfl⟩ (by simp [lk_day, lk_dfi]) (by omega)
      ·
        rw [nI_pred]
        refine lk_if_ltN (a := i) (tgt := 79) dX9_dayGoes_26 (by decide) (by omega) (fun hh42 => absurd hh42 (by omega)) (fun hh42 => ?_)
        refine lk_aload_n dX9_dayGoes_29 rfl rfl ?_
        refine lk_getR (f := 0) dX9_dayGoes_30 rfl fX9_9 (by decide) (by decide) ?_
        refine lk_bipush (v := 24) dX9_dayGoes_33 (by decide) ?_
        refine lk_iload dX9_dayGoes_35 rfl ?_
        refine lk_iaddN (a := 24) (b := i) dX9_dayGoes_37 ?_
        refine lk_aload_n dX9_dayGoes_38 rfl rfl ?_
        refine lk_getR (f := 0) dX9_dayGoes_39 rfl fX9_9 (by decide) (by decide) ?_
        refine lk_bipush (v := 31) dX9_dayGoes_42 (by decide) ?_
        refine lk_iload dX9_dayGoes_44 rfl ?_
        refine lk_iaddN (a := 31) (b := i) dX9_dayGoes_46 ?_
        refine lk_ialdN (f := 0) (i := 31 + i) dX9_dayGoes_47 rfl (by decide) rfl (by omega) (by decide) ?_
        refine lk_eqtop (y := ((lk_lsA V n (i + 1)) 7 (i))) (lk_r7 (by omega) (by omega)) ?_
        refine lk_aload_n dX9_dayGoes_48 rfl rfl ?_
        refine lk_getR (f := 0) dX9_dayGoes_49 rfl fX9_9 (by decide) (by decide) ?_
        refine lk_bipush (v := 24) dX9_dayGoes_52 (by decide) ?_
        refine lk_iload dX9_dayGoes_54 rfl ?_
        refine lk_iaddN (a := 24) (b := i) dX9_dayGoes_56 ?_
        refine lk_ialdN (f := 0) (i := 24 + i) dX9_dayGoes_57 rfl (by decide) rfl (by omega) (by decide) ?_
        refine lk_eqtop (y := ((lk_lsA V n (i + 1)) 6 (i))) (lk_r6 (by omega) (by omega)) ?_
        refine lk_aload_n dX9_dayGoes_58 rfl rfl ?_
        refine lk_getR (f := 0) dX9_dayGoes_59 rfl fX9_9 (by decide) (by decide) ?_
        refine lk_bipush (v := 45) dX9_dayGoes_62 (by decide) ?_
        refine lk_iload dX9_dayGoes_64 rfl ?_
        refine lk_iaddN (a := 45) (b := i) dX9_dayGoes_66 ?_
        refine lk_ialdN (f := 0) (i := 45 + i) dX9_dayGoes_67 rfl (by decide) rfl (by omega) (by decide) ?_
        refine lk_eqtop (y := ((lk_lsA V n (i + 1)) 9 (i))) (lk_r9 (by omega) (by omega)) ?_
        refine lk_isub dX9_dayGoes_68 ?_
        refine lk_mmax dX9_dayGoes_69 lX9_212 (Nat.le_of_ble_eq_true rfl) ?_
        refine lk_iastN (f := 0) (i := 24 + i) (v := (if ((lk_lsA V n (i + 1)) 7 (i)) < (((lk_lsA V n (i + 1)) 6 (i)) - ((lk_lsA V n (i + 1)) 9 (i))) then (((lk_lsA V n (i + 1)) 6 (i)) - ((lk_lsA V n (i + 1)) 9 (i))) else ((lk_lsA V n (i + 1)) 7 (i)))) dX9_dayGoes_72 rfl (by decide) rfl (by omega) (by decide) ?_
        refine lk_sg (σ' := (lk_ms (lk_up (lk_up σ 1 22 0 0) 1 24 0 (-2)) (lk_ou (lk_lsA V n (i + 1)) 6 (i) (if ((lk_lsA V n (i + 1)) 7 (i)) < (((lk_lsA V n (i + 1)) 6 (i)) - ((lk_lsA V n (i + 1)) 9 (i))) then (((lk_lsA V n (i + 1)) 6 (i)) - ((lk_lsA V n (i + 1)) 9 (i))) else ((lk_lsA V n (i + 1)) 7 (i)))) T)) (lk_w6 (by omega) (by omega)) ?_
        refine lk_iinc (v := (nI (i)) + (-1)) (L' := [(0, lk_vr 1 0), (1, lk_vi (nI (u))), (2, lk_vi (nI (e))), (3, lk_vi 0), (4, lk_vi (nI (n))), (5, lk_vi ((nI (i)) + (-1)))]) dX9_dayGoes_73 rfl rfl (by decide +kernel) rfl ?_
        refine lk_goto (tgt := 24) dX9_dayGoes_76 (by decide) ?_
        rw [lk_lsA_o V (by omega)]
        exact ih i _ (by omega) (by rw [Int32.sub_eq_add_neg]) (by omega)
  refine lk_sg (σ' := (lk_ms (lk_up (lk_up σ 1 22 0 0) 1 24 0 (-2)) (lk_lsA V n (n + 1)) T)) (by rw [lk_lsA_i]) ?_
  exact LP24 (n + 2) (n + 1) (nI n) (by omega) (nI_pred n).symm (by omega)
