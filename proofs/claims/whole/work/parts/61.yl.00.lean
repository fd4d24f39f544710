theorem lk_fx_sa {σ W : lk_N} (h : lk_fx [6, 7, 8, 9, 10, 11, 22, 24] σ W) : lk_fx [2, 6, 7, 8, 9, 10, 11, 22, 24] σ W := lk_fx_mo h (fun f hf => List.mem_cons_of_mem _ hf)
theorem lk_fx_lay {σ : lk_N} {V T : lk_O} : lk_fx [2, 6, 7, 8, 9, 10, 11, 22, 24] σ (lk_lay σ V T) := fun o f i hn => by
  simp only [lk_lay, lk_sw]
  rw [if_neg (by rintro ⟨rfl, rfl⟩; exact hn ⟨rfl, by decide⟩)]
theorem lk_lay_2 {σ : lk_N} {V T : lk_O} (j : Nat) : lk_lay σ V T 1 2 j = lk_mw V T (σ 1 0) j := by simp [lk_lay, lk_sw]
theorem lk_fx_2 {σ W : lk_N} (h : lk_fx [6, 7, 8, 9, 10, 11, 22, 24] σ W) (j : Nat) : W 1 2 j = σ 1 2 j := h 1 2 j (by simp)
theorem lk_fx_0 {σ W : lk_N} (h : lk_fx [2, 6, 7, 8, 9, 10, 11, 22, 24] σ W) : W 1 0 = σ 1 0 := funext fun j => h 1 0 j (by simp)
theorem lk_sw_fx {σ W : lk_N} (h : lk_fx [2, 6, 7, 8, 9, 10, 11, 22, 24] σ W) : lk_sw W 1 0 (σ 1 0) = W := by rw [← lk_fx_0 h]; exact lk_sw_self W 1 0
theorem lk_tr4 {u : Int32} : (0 ≤ u ∧ u ≤ 4) ↔ (0 ≤ u ∧ u ≤ 4) := Iff.rfl
theorem lk_dgP_fx {t : Nat} {σ W : lk_N} {c : Nat} {j : Option (Nat × Int32 × Nat × Int32)} (h : lk_dgP t σ W c j) : lk_fx [6, 7, 8, 9, 10, 11, 22, 24] σ W := h.1
theorem lk_dyl_t {n u e : Nat} : ∀ (m a b : Nat) (V T U : lk_O), (lk_dyl n u e m a b V T).1 = (lk_dyl n u e m a b V U).1 ∧ (lk_dyl n u e m a b V T).2.1 = (lk_dyl n u e m a b V U).2.1 ∧ (lk_dyl n u e m a b V T).2.2.1 = (lk_dyl n u e m a b V U).2.2.1
  | 0, _, _, _, _, _ => ⟨rfl, rfl, rfl⟩
  | m + 1, a, b, V, T, U => by
    unfold lk_dyl
    have ht := lk_trv_t (up := lk_way u e a b) (z := 0) (lk_lks (lk_way u e a b) (if lk_way u e a b = true then 0 else n) n) V T U
    rcases hv : lk_trv (lk_way u e a b) 0 (lk_lks (lk_way u e a b) (if lk_way u e a b = true then 0 else n) n) V T with ⟨i, _ | q, V', T'⟩ <;> rcases hw : lk_trv (lk_way u e a b) 0 (lk_lks (lk_way u e a b) (if lk_way u e a b = true then 0 else n) n) V U with ⟨j, _ | r, W', U'⟩ <;> rw [hv, hw] at ht
    · obtain ⟨h1, h2, h3⟩ := ht
      have h1' : i = j := h1
      have h3' : V' = W' := h3
      subst h1' h3'
      have ih := lk_dyl_t (n := n) (u := u) (e := e) m (if lk_way u e a b = true then a + 1 else a) (if lk_way u e a b = true then b else b + 1) V' T' U'
      exact ⟨by show _ + i = _ + i; rw [ih.1], ih.2.1, ih.2.2⟩
    · exact absurd ht.2.1 (by simp)
    · exact absurd ht.2.1 (by simp)
    · exact ht
theorem lk_day_t (n u e : Nat) (V T U : lk_O) : (lk_day V T n u e).1 = (lk_day V U n u e).1 ∧ (lk_day V T n u e).2.1 = (lk_day V U n u e).2.1 ∧ (lk_day V T n u e).2.2.1 = (lk_day V U n u e).2.2.1 := lk_dyl_t _ _ _ _ _ _
theorem lk_fl_t {i j : lk_J} (h : i.1 = j.1) (h2 : i.2.1 = j.2.1) : lk_fl i = lk_fl j := by
  obtain ⟨_ | q, V, T⟩ := i <;> obtain ⟨_ | r, W, U⟩ := j
  · exact h2
  · cases h
  · cases h
  · show lk_ou V 12 0 1 = lk_ou W 12 0 1
    rw [show V = W from h2]
theorem lk_dys_t {n u e : Nat} : ∀ (m : Nat) (V T U : lk_O), (lk_dys n u e m V T).1 = (lk_dys n u e m V U).1
  | 0, _, _, _ => rfl
  | m + 1, V, T, U => by
    unfold lk_dys
    have hd := lk_day_t n u e V T U
    rw [lk_fl_t hd.2.1 hd.2.2]
    exact lk_dys_t m _ _ _
theorem lk_drf_t {n u e : Nat} : ∀ (m i : Nat) (V T U : lk_O), lk_drf n u e m i V T = lk_drf n u e m i V U
  | 0, _, _, _, _ => rfl
  | m + 1, i, V, T, U => by
    unfold lk_drf
    have hd := lk_day_t n u e V T U
    rw [lk_fl_t hd.2.1 hd.2.2, hd.2.1]
    split
    · rfl
    · exact lk_drf_t m _ _ _ _
theorem lk_trv_k {up : Bool} {z : Int32} {n : Nat} {kq : Nat × Int32 × Nat × Int32} : ∀ (ks : List Nat) (V T : lk_O), (∀ k ∈ ks, k < n) → (lk_trv up z ks V T).2.1 = some kq → kq.1 < n
  | [], _, _, _, h => by cases h
  | k :: ks, V, T, hk, h => by
    unfold lk_trv at h
    cases hp : lk_pas V k up z with
    | inr q =>
      rw [hp] at h
      have : (k, q) = kq := by simpa using h
      subst this
      exact hk k List.mem_cons_self
    | inl V' =>
      rw [hp] at h
      exact lk_trv_k ks _ _ (fun a ha => hk a (List.mem_cons_of_mem _ ha)) h
theorem lk_dyl_k {n u e : Nat} {kq : Nat × Int32 × Nat × Int32} : ∀ (m a b : Nat) (V T : lk_O), (lk_dyl n u e m a b V T).2.1 = some kq → kq.1 < n
  | 0, _, _, _, _, h => by cases h
  | m + 1, a, b, V, T, h => by
    unfold lk_dyl at h
    rcases hv : lk_trv (lk_way u e a b) 0 (lk_lks (lk_way u e a b) (if lk_way u e a b = true then 0 else n) n) V T with ⟨i, _ | q, V', T'⟩ <;> rw [hv] at h
    · exact lk_dyl_k m _ _ V' T' h
    · have hq : q = kq := by simpa using h
      subst hq
      exact lk_trv_k (up := lk_way u e a b) (z := 0) (lk_lks (lk_way u e a b) (if lk_way u e a b = true then 0 else n) n) V T (lk_lks_lt (by split <;> omega)) (by rw [hv])
theorem lk_bigk {n u e : Nat} {V T : lk_O} {kq : Nat × Int32 × Nat × Int32} (hn : n ≤ 6) (ha : lk_all V n) (h : (lk_day V T n u e).2.1 = some kq) : kq.1 < 2147483648 := by
  have := lk_dyl_k _ _ _ _ _ h
  omega
theorem lk_lt3 {x : Int32} (h : x.toInt ≤ 3) (h3 : ¬ x = 3) : x < 3 := by
  apply Int32.lt_iff_toInt_lt.mpr
  rw [show (3 : Int32).toInt = 3 from rfl]
  rcases (show x.toInt = 3 ∨ x.toInt < 3 by omega) with e | e
  · exact absurd (Int32.toInt_inj.mp e) h3
  · exact e
theorem lk_all_pon {V : lk_O} {n k : Nat} (h : lk_all V n) (hk : k < n) (h3 : V 3 k < 3) (hr : V 5 k = 0 ∧ V 4 k = 0) : lk_all (lk_ou V 3 k (V 3 k + 1)) n :=
  ⟨lk_ou_cok h.1 hk h3 hr, lk_rok_ou h.2.1 (by decide), ⟨fun r h7 => h.2.2.1 r h7, h.2.2.2.1, fun r h7 => h.2.2.2.2 r h7⟩⟩
theorem lk_one {m : Nat} (h : 1 ≤ m) (h2 : m ≤ 20) : (1 : Int32) ≤ nI m := nI_le (a := 1) h (by omega)
theorem lk_all_dys {n u e : Nat} : ∀ (m : Nat) (V T : lk_O), lk_all V n → lk_all (lk_dys n u e m V T).1 n
  | 0, V, T, h => h
  | m + 1, V, T, h => lk_all_dys m _ _ (lk_all_fl (lk_all_day h))
