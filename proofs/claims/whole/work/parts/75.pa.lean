section PQ
variable {l : Launch} {X : lk_G}
theorem lk_pfm {M : lk_M} {d : Nat} {a : List lk_V} {σ : lk_N} {τ : lk_T} {V T : lk_O} {v : lk_V} {c : Nat} (e : lk_ms σ V T = σ) (hm : lk_Mt l X M d a (lk_ms σ V T) τ (fun r s t => r = some v ∧ s = lk_ms σ V T ∧ t = τ)) (hR : lk_Rel σ τ c) : lk_Mt l X M d a σ τ (fun r s t => r = some v ∧ lk_Rel s t c) := by
  rw [e] at hm
  exact lk_pf hm hR
theorem lk_pfn {M : lk_M} {d : Nat} {a : List lk_V} {σ s2 : lk_N} {τ t2 : lk_T} {V T : lk_O} {v : lk_V} {c : Nat} (e : lk_ms σ V T = σ) (hm : lk_Mt l X M d a (lk_ms σ V T) τ (fun r s t => r = some v ∧ s = s2 ∧ t = t2)) (hR : lk_Rel s2 t2 c) : lk_Mt l X M d a σ τ (fun r s t => r = some v ∧ lk_Rel s t c) := lk_pf (lk_msx e hm) hR
/-- class's numbers but for scratch, answers by cases of what it left -/
theorem lk_ppx {α : Type} {F : α → lk_N} {P : α → Prop} {Mc Mm : lk_M} {d d2 : Nat} {a a2 : List lk_V} {σ : lk_N} {τ τ1 : lk_T} {v : lk_V} {c : Nat} (hc : lk_Mt l X Mc d a σ τ (fun r s t => r = some v ∧ t = τ1 ∧ ∃ W, s = F W ∧ P W))
    (hm : ∀ W, P W → lk_Mt l X Mm d2 a2 (F W) τ1 (fun r s t => r = some v ∧ lk_Rel s t (c + 1))) (hv : lk_vty Mm.2.2.2 v := by exact rfl) : lk_Mt l X Mc d a σ τ (lk_PP l X Mm d2 a2 c) :=
  lk_Mt_mono hc (fun r s t ⟨h1, h2, W, h3, h4⟩ => by subst h1; subst h2; subst h3; exact ⟨⟨v, rfl, hv⟩, hm W h4⟩)
theorem lk_ppy {α : Type} {F : α → lk_N} {Mc Mm : lk_M} {d d2 : Nat} {a a2 : List lk_V} {σ : lk_N} {τ τ1 : lk_T} {v : lk_V} {c : Nat} (hc : lk_Mt l X Mc d a σ τ (fun r s t => r = some v ∧ t = τ1 ∧ ∃ W, s = F W))
    (hm : ∀ W, lk_Mt l X Mm d2 a2 (F W) τ1 (fun r s t => r = some v ∧ lk_Rel s t (c + 1))) (hv : lk_vty Mm.2.2.2 v := by exact rfl) : lk_Mt l X Mc d a σ τ (lk_PP l X Mm d2 a2 c) :=
  lk_Mt_mono hc (fun r s t ⟨h1, h2, W, h3⟩ => by subst h1; subst h2; subst h3; exact ⟨⟨v, rfl, hv⟩, hm W⟩)
theorem lk_pfx {α : Type} {F : α → lk_N} {P : α → Prop} {M : lk_M} {d : Nat} {a : List lk_V} {σ : lk_N} {τ : lk_T} {V T : lk_O} {v : lk_V} {c : Nat} (e : lk_ms σ V T = σ) (hm : lk_Mt l X M d a (lk_ms σ V T) τ (fun r s t => r = some v ∧ t = τ ∧ ∃ W, s = F W ∧ P W)) (hR : ∀ W, P W → lk_Rel (F W) τ c) : lk_Mt l X M d a σ τ (fun r s t => r = some v ∧ lk_Rel s t c) :=
  lk_Mt_mono (lk_msx e hm) (fun r s t ⟨h1, h2, W, h3, h4⟩ => by subst h2; subst h3; exact ⟨h1, hR W h4⟩)
theorem lk_pfb {α : Type} {F : α → lk_N} {P : α → Prop} {M : lk_M} {d : Nat} {a : List lk_V} {σ : lk_N} {τ : lk_T} {B : lk_O} {v : lk_V} {c : Nat} (e : lk_mb σ B = σ) (hm : lk_Mt l X M d a (lk_mb σ B) τ (fun r s t => r = some v ∧ t = τ ∧ ∃ W, s = F W ∧ P W)) (hR : ∀ W, P W → lk_Rel (F W) τ c) : lk_Mt l X M d a σ τ (fun r s t => r = some v ∧ lk_Rel s t c) :=
  lk_Mt_mono (lk_mbx e hm) (fun r s t ⟨h1, h2, W, h3, h4⟩ => by subst h2; subst h3; exact ⟨h1, hR W h4⟩)
theorem lk_pfc {M : lk_M} {d : Nat} {a : List lk_V} {σ s2 : lk_N} {τ t2 : lk_T} {B : lk_O} {v : lk_V} {c : Nat} (e : lk_mb σ B = σ) (hm : lk_Mt l X M d a (lk_mb σ B) τ (fun r s t => r = some v ∧ s = s2 ∧ t = t2)) (hR : lk_Rel s2 t2 c) : lk_Mt l X M d a σ τ (fun r s t => r = some v ∧ lk_Rel s t c) := lk_pf (lk_mbx e hm) hR
end PQ
/-- the canal and the tally change, on both sides -/
theorem lk_R_VT {σ s : lk_N} {τ : lk_T} {n nf nt c : Nat} {V T : lk_O} (hR : lk_R σ τ n nf nt c) (h2 : s 2 = V) (h3 : s 3 = T) (hN : s 1 0 = lk_mw V T (σ 1 0)) (hall : lk_all V n) (hT : ∀ k, k < 118 → 0 ≤ (T 0 k).toInt ∧ (T 0 k).toInt ≤ 60 * (c + 1 : Nat))
    (hk : ∀ o f i, lk_rl o f = true → ¬ o = 2 → ¬ o = 3 → ¬ (o = 1 ∧ f = 0) → s o f i = σ o f i) (h10 : s 1 10 0 = σ 1 10 0) : lk_R s τ n nf nt (c + 1) := by
  obtain ⟨⟨g1, g2, g3, g4, g5⟩, hb, hcs, h4, h5⟩ := hR
  have e (o : Nat) (ho : ∀ f, lk_rl o f = true) (a : ¬ o = 2) (b : ¬ o = 3) (d : ¬ o = 1) : s o = σ o := funext fun f => funext fun i => hk o f i (ho f) a b (fun z => d z.1)
  have f1 (f : Nat) (hf : lk_rl 1 f = true) (h0 : ¬ f = 0) : s 1 f = σ 1 f := funext fun i => hk 1 f i hf (by decide) (by decide) (fun z => h0 z.2)
  have e4 := e 4 (fun f => by simp [lk_rl]) (by decide) (by decide) (by decide)
  have e5 := e 5 (fun f => by simp [lk_rl]) (by decide) (by decide) (by decide)
  have e6 := e 6 (fun f => by simp [lk_rl]) (by decide) (by decide) (by decide)
  have e11 := e 11 (fun f => by simp [lk_rl]) (by decide) (by decide) (by decide)
  have e13 := e 13 (fun f => by simp [lk_rl]) (by decide) (by decide) (by decide)
  have e14 := e 14 (fun f => by simp [lk_rl]) (by decide) (by decide) (by decide)
  have e7 : s 0 7 0 = σ 0 7 0 := hk 0 7 0 rfl (by decide) (by decide) (by decide)
  have hmid : ∀ i, 54 ≤ i → i ≤ 114 → s 1 0 i = σ 1 0 i := fun i h1 h2 => by
    rw [hN, ← lk_ms_r (σ := σ), lk_rB ⟨h1, h2⟩]
  have hhi : ∀ i, 233 ≤ i → s 1 0 i = σ 1 0 i := fun i h1 => by rw [hN, ← lk_ms_r (σ := σ), lk_r33 h1]
  refine ⟨⟨by rw [h2]; exact hall, ?_, ⟨by rw [hhi 233 (by decide)]; exact g3.1, by rw [hhi 234 (by decide)]; exact g3.2⟩, by rw [h3]; exact hT, ?_⟩, ?_, ?_, h4, ?_⟩
  · rw [h2, h3, hN]
    have := congrFun (congrFun (lk_ms_ms (σ := σ) (V := V) (T := T) V T) 1) 0
    have q : lk_ms (lk_ms σ V T) V T 1 0 = lk_mw V T (lk_mw V T (σ 1 0)) := funext fun i => by
      rw [lk_ms_r]
      exact congrArg (fun N => lk_mw V T N i) (funext fun j => lk_ms_r j)
    rw [q] at this
    rw [this]
    first | done | exact funext fun j => lk_ms_r j
  · obtain ⟨k1, k2, k3, k4, k5, k6, k7⟩ := g5
    rw [e11]
    refine ⟨k1, k2, by rw [hmid 114 (by decide) (by decide)]; exact k3, fun b hb => ?_, k5, k6, k7⟩
    have := k4 b hb
    rw [hmid _ (by omega) (by omega), hmid _ (by omega) (by omega), hmid _ (by omega) (by omega), hmid _ (by omega) (by omega), hmid _ (by omega) (by omega)]
    exact this
  · unfold lk_tpe; rw [e14, f1 12 rfl (by decide), f1 13 rfl (by decide)]; exact hb
  · unfold lk_cse; rw [e4, h10, f1 11 rfl (by decide)]; exact hcs
  · have := lk_img9_c h5
    unfold lk_img9; rw [e7, f1 3 rfl (by decide), f1 1 rfl (by decide), e5, e6, e13]; exact this
theorem lk_T_c {T : lk_O} {c : Nat} (h : ∀ k, k < 118 → 0 ≤ (T 0 k).toInt ∧ (T 0 k).toInt ≤ 60 * c) : ∀ k, k < 118 → 0 ≤ (T 0 k).toInt ∧ (T 0 k).toInt ≤ 60 * (c + 1 : Nat) := fun k hk => by have := h k hk; constructor <;> omega
/-- the class's canal alone has changed, the model's view behind it -/
theorem lk_R_V2 {σ : lk_N} {τ : lk_T} {n nf nt c f k : Nat} {v : Int32} (hR : lk_R σ τ n nf nt c) (hall : lk_all (lk_ou (σ 2) f k v) n) : lk_Rel (lk_ms (lk_up σ 2 f k v) (lk_ou (σ 2) f k v) (σ 3)) τ (c + 1) := by
  refine ⟨n, nf, nt, lk_R_VT (V := lk_ou (σ 2) f k v) (T := σ 3) hR ?_ ?_ ?_ hall (lk_T_c hR.1.2.2.2.1) (fun o g i ho a b cc => ?_) ?_⟩
  · funext g i
    rw [lk_rf (by omega), lk_up_so, lk_so_eq]
  · funext g i
    rw [lk_rf (by omega), lk_up_so, lk_so_ne (by decide)]
  · funext i
    rw [lk_ms_r]; rfl
  · rw [lk_rf cc, lk_up_so, lk_so_ne a]
  · rw [lk_rf (by decide), lk_up_so, lk_so_ne (by decide)]
theorem lk_nbm {w a : Int32} (h : ¬ (0 ≤ w ∧ w ≤ a)) : w < 0 ∨ a < w := by
  by_cases h0 : 0 ≤ w
  · exact Or.inr (Int32.not_le.mp (fun q => h ⟨h0, q⟩))
  · exact Or.inl (Int32.not_le.mp h0)
theorem lk_lset_w {w v : Int32} (h : lk_lset w v = true) : (w = 0 ∧ 1 ≤ v ∧ v ≤ 99) ∨ (w = 1 ∧ 0 ≤ v ∧ v ≤ 3) := by
  unfold lk_lset at h
  split at h
  · rename_i e; exact Or.inl ⟨e, by simpa using h⟩
  · split at h
    · rename_i e; exact Or.inr ⟨e, by simpa using h⟩
    · cases h
theorem lk_up_1 (σ : lk_N) (f i : Nat) (v : Int32) : (lk_up σ 2 f i v) 1 0 = σ 1 0 := by funext j; simp [lk_up]
theorem lk_all_3 {V : lk_O} {n k : Nat} {v : Int32} (h : lk_all V n) (hk : k < n) (hv : 0 ≤ v ∧ v ≤ 3) : lk_all (lk_ou V 3 k v) n := by
  have a := Int32.le_iff_toInt_le.mp hv.1
  have b := Int32.le_iff_toInt_le.mp hv.2
  rw [show (0 : Int32).toInt = 0 from rfl] at a
  rw [show (3 : Int32).toInt = 3 from rfl] at b
  refine ⟨⟨by have := h.1.1; simp [lk_ou]; exact this, h.1.2.1, h.1.2.2.1, fun i hi => ?_⟩, lk_rok_ou h.2.1 (by decide), ⟨fun r h7 => h.2.2.1 r h7, h.2.2.2.1, fun r h7 => h.2.2.2.2 r h7⟩⟩
  have hl := h.1.2.2.2 i hi
  unfold lk_lok at hl ⊢
  by_cases e : i = k
  · subst e; simp [lk_ou]; exact ⟨hl.1, hl.2.1, a, b, hl.2.2.2.2.1, hl.2.2.2.2.2.1, hl.2.2.2.2.2.2⟩
  · simp [lk_ou, e]; exact hl
theorem lk_all_2 {V : lk_O} {n k : Nat} {v : Int32} (h : lk_all V n) (hk : k < n) (hr : V 5 k = 0 ∧ V 4 k = 0) (hv : 1 ≤ v ∧ v ≤ 99) : lk_all (lk_ou V 2 k v) n := by
  have a := Int32.le_iff_toInt_le.mp hv.1
  have b := Int32.le_iff_toInt_le.mp hv.2
  rw [show (1 : Int32).toInt = 1 from rfl] at a
  rw [show (99 : Int32).toInt = 99 from rfl] at b
  refine ⟨⟨by have := h.1.1; simp [lk_ou]; exact this, h.1.2.1, h.1.2.2.1, fun i hi => ?_⟩, lk_rok_ou h.2.1 (by decide), ⟨fun r h7 => h.2.2.1 r h7, h.2.2.2.1, fun r h7 => h.2.2.2.2 r h7⟩⟩
  have hl := h.1.2.2.2 i hi
  unfold lk_lok at hl ⊢
  by_cases e : i = k
  · subst e; simp [lk_ou]; rw [hr.2, show (0 : Int32).toInt = 0 from rfl]; exact ⟨a, b, hl.2.2.1, hl.2.2.2.1, by omega, by omega, hl.2.2.2.2.2.2⟩
  · simp [lk_ou, e]; exact hl
theorem pp_ofLock (l : Launch) (X : lk_G) (d d2 : Nat) (σ : lk_N) (τ : lk_T) (n nf nt c : Nat) (hR : lk_R σ τ n nf nt c) (k w : Int32) : lk_Mt l X mX8_ofLock (d + 2) [lk_vr 0 0, lk_vi k, lk_vi w] σ τ (lk_PP l X mX9_ofLock (d2 + 2) [lk_vr 1 0, lk_vi k, lk_vi w] c) := by
  have ha := hR.1.1
  have hV := ha.1
  have hn6 := hV.2.2.1
  have hV0 := hV.1
  have hms := lk_R_ms hR (s := σ) rfl
  have hN53 : σ 1 0 53 = nI n := by rw [← hms, lk_r0 rfl rfl]; exact hV0
  have hRc := lk_R_c hR
  rcases lk_ix (k := k) (n := n) (by omega) with ⟨j, hj, rfl⟩ | ⟨h1, h2⟩
  · by_cases hw : 0 ≤ w ∧ w ≤ 4
    · obtain ⟨i, hi, rfl⟩ := nI_of2 (M := 4) (n := 4) rfl (Int32.not_lt.mpr hw.1) hw.2
      have h8 := tX8_ofLock_ok l X d σ τ n hV j hj i hi
      rcases (show i = 0 ∨ i = 1 ∨ i = 2 ∨ i = 3 ∨ i = 4 by omega) with rfl | rfl | rfl | rfl | rfl
      · exact lk_pp h8 (lk_pfm hms (tX9_ofLock_0 l X d2 σ τ (σ 2) (σ 3) n j hV hj) hRc)
      · exact lk_pp h8 (lk_pfm hms (tX9_ofLock_1 l X d2 σ τ (σ 2) (σ 3) n j hV hj) hRc)
      · exact lk_pp h8 (lk_pfm hms (tX9_ofLock_2 l X d2 σ τ (σ 2) (σ 3) n j hV hj) hRc)
      · exact lk_pp h8 (lk_pfm hms (tX9_ofLock_3 l X d2 σ τ (σ 2) (σ 3) n j hV hj) hRc)
      · exact lk_pp h8 (lk_pfm hms (tX9_ofLock_4 l X d2 σ τ (σ 2) (σ 3) n j hV hj) hRc)
    · exact lk_pp (tX8_ofLock_bad l X d σ τ n hV j hj w (lk_nbm hw)) (lk_pfm hms (tX9_ofLock_bad l X d2 σ τ (σ 2) (σ 3) n j hV hj w hw) hRc)
  · exact lk_pp (tX8_ofLock_out l X d σ τ k (by rw [hV0]; exact h1) w) (lk_pfm hms (tX9_ofLock_out l X d2 σ τ (σ 2) (σ 3) k (by rw [hV0]; exact h2) w) hRc)

theorem pp_lock (l : Launch) (X : lk_G) (d d2 : Nat) (σ : lk_N) (τ : lk_T) (n nf nt c : Nat) (hR : lk_R σ τ n nf nt c) (k w v : Int32) : lk_Mt l X mX8_lock (d + 2) [lk_vr 0 0, lk_vi k, lk_vi w, lk_vi v] σ τ (lk_PP l X mX9_lock (d2 + 2) [lk_vr 1 0, lk_vi k, lk_vi w, lk_vi v] c) := by
  have ha := hR.1.1
  have hV := ha.1
  have hn6 := hV.2.2.1
  have hV0 := hV.1
  have hms := lk_R_ms hR (s := σ) rfl
  have hN53 : σ 1 0 53 = nI n := by rw [← hms, lk_r0 rfl rfl]; exact hV0
  have hRc := lk_R_c hR
  rcases lk_ix (k := k) (n := n) (by omega) with ⟨j, hj, rfl⟩ | ⟨h1, h2⟩
  · have hj6 : j < 6 := Nat.lt_of_lt_of_le hj hn6
    have hl := hV.2.2.2 j hj6
    rcases hs : lk_lset w v with _ | _
    · exact lk_pp (tX8_lock_bad l X d σ τ n hV j hj w v hs) (lk_pfm hms (tX9_lock_bad l X d2 σ τ (σ 2) (σ 3) n j hV hj w v hs) hRc)
    · rcases lk_lset_w hs with ⟨rfl, hv⟩ | ⟨rfl, hv⟩
      · by_cases hr : σ 2 5 j = 0 ∧ σ 2 4 j = 0
        · refine lk_pp (tX8_lock_ok0 l X d σ τ n hV j hj v hs hr) (lk_pfn (lk_R_ms hR (lk_up_1 _ _ _ _)) (tX9_lock_ok0 l X d2 (lk_up σ 2 2 j v) τ (σ 2) (σ 3) n j hV hj v hv hr) (lk_R_V2 hR ?_))
          exact lk_all_2 ha hj hr hv
        · exact lk_pp (tX8_lock_state l X d σ τ n hV j hj 0 v hs hr) (lk_pfm hms (tX9_lock_state0 l X d2 σ τ (σ 2) (σ 3) n j hV hj v hv hr) hRc)
      · by_cases hr : σ 2 5 j = 0 ∧ σ 2 4 j = 0
        · refine lk_pp (tX8_lock_ok1 l X d σ τ n hV j hj v hs hr) (lk_pfn (lk_R_ms hR (lk_up_1 _ _ _ _)) (tX9_lock_ok1 l X d2 (lk_up σ 2 3 j v) τ (σ 2) (σ 3) n j hV hj v hv hr) (lk_R_V2 hR ?_))
          exact lk_all_3 ha hj hv
        · exact lk_pp (tX8_lock_state l X d σ τ n hV j hj 1 v hs hr) (lk_pfm hms (tX9_lock_state1 l X d2 σ τ (σ 2) (σ 3) n j hV hj v hv hr) hRc)
  · exact lk_pp (tX8_lock_out l X d σ τ k (by rw [hV0]; exact h1) w v) (lk_pfm hms (tX9_lock_out l X d2 σ τ (σ 2) (σ 3) k (by rw [hV0]; exact h2) w v) hRc)
