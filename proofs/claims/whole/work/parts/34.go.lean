theorem tX4_isFromBelowNext_t (l : Launch) (X : lk_G) (d : Nat) (σ : lk_N) (τ : lk_T) (y : Nat) (hy : lk_ko y = 4) (f : Nat) (hf : lk_ko f = 2) (n : Nat) (hn : σ f 5 0 = nI n) (hn22 : n ≤ 22) (g h : Nat) (hg : lk_ko g = 3) (hh : lk_ko h = 3) (nb na : Nat) (qb qa : Nat → Nat) (hgb : σ g 1 0 = nI nb) (hha : σ h 1 0 = nI na) (hnb : nb ≤ 22) (hna : na ≤ 22) (hqb : ∀ i, i < nb → σ g 0 i = nI (qb i)) (hqa : ∀ i, i < na → σ h 0 i = nI (qa i)) (hqbn : ∀ i, i < nb → qb i < n) (hqan : ∀ i, i < na → qa i < n) (i j ru : Nat) (fu : Int32) (hi : σ y 0 0 = nI i) (hj : σ y 1 0 = nI j) (hi9 : i ≤ 22) (hj9 : j ≤ 22) (hru : ru ≤ 3) (hfb : lk_frb (σ f 2) qb qa nb na i j fu ru = true) : lk_Mt l X mX4_isFromBelowNext (d + 3) [lk_vr y 0, lk_vr f 0, lk_vr g 0, lk_vr h 0, lk_vi (fu), lk_vi (nI (ru))] σ τ (fun rr σ1 τ1 => rr = some (lk_vi 1) ∧ σ1 = σ ∧ τ1 = τ) := by
  have h2 := tX4_isFromBelowNext l X d σ τ y hy f hf n hn hn22 g h hg hh nb na qb qa hgb hha hnb hna hqb hqa hqbn hqan i j ru fu hi hj hi9 hj9 hru
  rw [hfb] at h2; exact h2
theorem tX4_isFromBelowNext_f (l : Launch) (X : lk_G) (d : Nat) (σ : lk_N) (τ : lk_T) (y : Nat) (hy : lk_ko y = 4) (f : Nat) (hf : lk_ko f = 2) (n : Nat) (hn : σ f 5 0 = nI n) (hn22 : n ≤ 22) (g h : Nat) (hg : lk_ko g = 3) (hh : lk_ko h = 3) (nb na : Nat) (qb qa : Nat → Nat) (hgb : σ g 1 0 = nI nb) (hha : σ h 1 0 = nI na) (hnb : nb ≤ 22) (hna : na ≤ 22) (hqb : ∀ i, i < nb → σ g 0 i = nI (qb i)) (hqa : ∀ i, i < na → σ h 0 i = nI (qa i)) (hqbn : ∀ i, i < nb → qb i < n) (hqan : ∀ i, i < na → qa i < n) (i j ru : Nat) (fu : Int32) (hi : σ y 0 0 = nI i) (hj : σ y 1 0 = nI j) (hi9 : i ≤ 22) (hj9 : j ≤ 22) (hru : ru ≤ 3) (hfb : lk_frb (σ f 2) qb qa nb na i j fu ru = false) : lk_Mt l X mX4_isFromBelowNext (d + 3) [lk_vr y 0, lk_vr f 0, lk_vr g 0, lk_vr h 0, lk_vi (fu), lk_vi (nI (ru))] σ τ (fun rr σ1 τ1 => rr = some (lk_vi 0) ∧ σ1 = σ ∧ τ1 = τ) := by
  have h2 := tX4_isFromBelowNext l X d σ τ y hy f hf n hn hn22 g h hg hh nb na qb qa hgb hha hnb hna hqb hqa hqbn hqan i j ru fu hi hj hi9 hj9 hru
  rw [hfb] at h2; exact h2
/-- a barred or good end of passages, no flag put -/
def lk_yR (σ : lk_N) (c : Nat) (j : lk_J) : lk_N := match j.1 with
  | none => lk_s2 σ c j.2.1 j.2.2
  | some (k, q) => lk_so (lk_s2 σ c j.2.1 j.2.2) (c + 2) (lk_kau (σ (c + 2)) (nI k) q)
def lk_yy (i j : Nat) (s : Int32) : lk_O := fun f _ => if f = 0 then nI i else if f = 1 then nI j else s
theorem lk_inr4 {c f i : Nat} (hc : lk_ko c = 4) (h : lk_inr c f i) : f < 3 ∧ i = 0 := by
  unfold lk_inr at h
  rw [hc] at h
  have hf : f < 3 := by
    rcases Nat.lt_or_ge f 3 with q | q
    · exact q
    · have : lk_fk 4 f = (9, 0) := by
        unfold lk_fk
        rw [List.getD_eq_getElem?_getD, List.getElem?_eq_none (show (lk_fks.getD 4 []).length ≤ f from q)]
        rfl
      rw [this] at h
      simp at h
  have key : ∀ f, f < 3 → (lk_fk 4 f).1 = 0 := by decide +kernel
  have := key f hf
  omega
theorem lk_rrx {σ : lk_N} {c y : Nat} (hy : lk_ko y = 4) (hyc : ¬ y = c) (hyc1 : ¬ y = c + 1) (V T V2 T2 W : lk_O) (a b : Nat) (s : Int32) (g : Nat) (v : Int32) (hg : (g = 0 ∧ v = nI a ∧ W 1 0 = nI b) ∨ (g = 1 ∧ v = nI b ∧ W 0 0 = nI a)) :
    ∀ o f i, lk_inr o f i → lk_so (lk_s2 σ c V2 T2) y (lk_yy a b s) o f i = lk_up (lk_up (lk_s2 (lk_so (lk_s2 σ c V T) y W) c V2 T2) y 2 0 s) y g 0 v o f i := by
  intro o f i hin
  by_cases ho : o = y
  · subst ho
    obtain ⟨hf, rfl⟩ := lk_inr4 hy hin
    have h1 : lk_s2 (lk_so (lk_s2 σ c V T) o W) c V2 T2 o = W := by rw [lk_s2_ne hyc hyc1, lk_so_eq]
    rw [lk_so_eq]
    simp only [lk_up, lk_yy, h1]
    rcases hg with ⟨rfl, rfl, h2⟩ | ⟨rfl, rfl, h2⟩ <;> (rcases (show f = 0 ∨ f = 1 ∨ f = 2 by omega) with rfl | rfl | rfl <;> simp [h2])
  · have h2 : lk_s2 (lk_so (lk_s2 σ c V T) y W) c V2 T2 o = lk_s2 σ c V2 T2 o := by
      by_cases e1 : o = c + 1
      · subst e1; rw [lk_s2_t, lk_s2_t]
      · by_cases e2 : o = c
        · subst e2; rw [lk_s2_c, lk_s2_c]
        · rw [lk_s2_ne e2 e1, lk_so_ne ho, lk_s2_ne e2 e1, lk_s2_ne e2 e1]
    rw [lk_so_ne ho]
    simp only [lk_up]
    rw [if_neg (fun z => ho z.1), if_neg (fun z => ho z.1), h2]
def lk_goR (σ : lk_N) (c f k ru : Nat) (qb qa : Nat → Nat) (nb na : Nat) : (Nat × Nat × Int32) × lk_J := lk_rr (σ f 2) (σ f 1) qb qa nb na k ru (nb + na) 0 0 0 (σ c) (σ (c + 1))
theorem lk_frb_t {R : Nat → Int32} {qb qa : Nat → Nat} {nb na i j : Nat} {fu : Int32} {ru : Nat} (h : lk_frb R qb qa nb na i j fu ru = true) (h2 : i + j < nb + na) : i < nb := by
  rcases Nat.lt_or_ge i nb with q | q
  · exact q
  · unfold lk_frb at h
    rw [if_pos (Or.inl q)] at h
    simpa using h
theorem lk_frb_f {R : Nat → Int32} {qb qa : Nat → Nat} {nb na i j : Nat} {fu : Int32} {ru : Nat} (h : lk_frb R qb qa nb na i j fu ru = false) (h2 : i + j < nb + na) : j < na := by
  rcases Nat.lt_or_ge j na with q | q
  · exact q
  · unfold lk_frb at h
    rw [if_pos (Or.inr q)] at h
    simp at h
    omega
set_option maxHeartbeats 1000000 in
set_option maxRecDepth 100000 in
theorem tX4_go (l : Launch) (X : lk_G) (d : Nat) (σ : lk_N) (τ : lk_T) (y : Nat) (hy : lk_ko y = 4) (c : Nat) (hc : lk_ko c = 0) (f : Nat) (hf : lk_ko f = 2) (n : Nat) (hn : σ f 5 0 = nI n) (hn22 : n ≤ 22) (g h : Nat) (hg : lk_ko g = 3) (hh : lk_ko h = 3) (nb na : Nat) (qb qa : Nat → Nat) (hgb : σ g 1 0 = nI nb) (hha : σ h 1 0 = nI na) (hnb : nb ≤ 22) (hna : na ≤ 22) (hqb : ∀ i, i < nb → σ g 0 i = nI (qb i)) (hqa : ∀ i, i < na → σ h 0 i = nI (qa i)) (hqbn : ∀ i, i < nb → qb i < n) (hqan : ∀ i, i < na → qa i < n) (nl k ru : Nat) (hV : lk_cok (σ c) nl) (hk : k < nl) (hru : ru ≤ 3) (hz : ∀ b, b < n → 0 ≤ (σ f 1 b).toInt ∧ (σ f 1 b).toInt ≤ 9) : lk_Mt l X mX4_go (d + 4) [lk_vr y 0, lk_vr c 0, lk_vr f 0, lk_vr g 0, lk_vr h 0, lk_vi (nI (k)), lk_vi (nI (ru))] σ τ (fun rr σ1 τ1 => rr = none ∧ σ1 = lk_so (lk_yR σ c (lk_goR σ c f k ru qb qa nb na).2) y (lk_yy (lk_goR σ c f k ru qb qa nb na).1.1 (lk_goR σ c f k ru qb qa nb na).1.2.1 (lk_goR σ c f k ru qb qa nb na).1.2.2) ∧ τ1 = τ) := by
  refine lk_met (L := [(0, lk_vr y 0), (1, lk_vr c 0), (2, lk_vr f 0), (3, lk_vr g 0), (4, lk_vr h 0), (5, lk_vi (nI (k))), (6, lk_vi (nI (ru)))]) (by decide +kernel) (Nat.le_of_ble_eq_true rfl) rfl ?_
  obtain ⟨Q, hQ⟩ : ∃ Q : lk_Q, Q = fun rr σ1 τ1 => rr = none ∧ σ1 = lk_so (lk_yR σ c (lk_goR σ c f k ru qb qa nb na).2) y (lk_yy (lk_goR σ c f k ru qb qa nb na).1.1 (lk_goR σ c f k ru qb qa nb na).1.2.1 (lk_goR σ c f k ru qb qa nb na).1.2.2) ∧ τ1 = τ := ⟨_, rfl⟩
  rw [← hQ]
  have hk6 : k < 6 := Nat.lt_of_lt_of_le hk hV.2.2.1
  have hyc : ¬ y = c := by intro e; rw [e, hc] at hy; cases hy
  have hyc1 : ¬ y = c + 1 := by intro e; rw [e, lk_kc1 hc] at hy; cases hy
  have hyc2 : ¬ y = c + 2 := by intro e; rw [e, lk_kc2 hc] at hy; cases hy
  have hfc : ¬ f = c := by intro e; rw [e, hc] at hf; cases hf
  have hfc1 : ¬ f = c + 1 := by intro e; rw [e, lk_kc1 hc] at hf; cases hf
  have hfy : ¬ f = y := by intro e; rw [e, hy] at hf; cases hf
  have hgc : ¬ g = c := by intro e; rw [e, hc] at hg; cases hg
  have hgc1 : ¬ g = c + 1 := by intro e; rw [e, lk_kc1 hc] at hg; cases hg
  have hgy : ¬ g = y := by intro e; rw [e, hy] at hg; cases hg
  have hhc : ¬ h = c := by intro e; rw [e, hc] at hh; cases hh
  have hhc1 : ¬ h = c + 1 := by intro e; rw [e, lk_kc1 hc] at hh; cases hh
  have hhy : ¬ h = y := by intro e; rw [e, hy] at hh; cases hh
  obtain ⟨R, hR⟩ : ∃ R, R = lk_goR σ c f k ru qb qa nb na := ⟨_, rfl⟩
  rw [← hR] at hQ
  refine lk_aload_n dX4_go_0 rfl rfl ?_
  refine lk_iconst (v := 0) dX4_go_1 (by decide) ?_
  refine lk_putI (f := 0) dX4_go_2 hy fX4_9 (by decide) (by decide) ?_
  refine lk_aload_n dX4_go_5 rfl rfl ?_
  refine lk_iconst (v := 0) dX4_go_6 (by decide) ?_
  refine lk_putI (f := 1) dX4_go_7 hy fX4_15 (by decide) (by decide) ?_
  refine lk_aload_n dX4_go_10 rfl rfl ?_
  refine lk_iconst (v := 0) dX4_go_11 (by decide) ?_
  refine lk_putI (f := 2) dX4_go_12 hy fX4_18 (by decide) (by decide) ?_
  refine lk_aload_n dX4_go_15 rfl rfl ?_
  refine lk_getIv (v := nI (nb)) (f := 1) dX4_go_16 hg fX4_21 (by decide) (by decide) (by simp [lk_up, hgy, hgb]) ?_
  refine lk_aload dX4_go_19 rfl ?_
  refine lk_getIv (v := nI (na)) (f := 1) dX4_go_21 hh fX4_21 (by decide) (by decide) (by simp [lk_up, hhy, hha]) ?_
  refine lk_iaddN (a := nb) (b := na) dX4_go_24 ?_
  refine lk_istore (L' := [(0, lk_vr y 0), (1, lk_vr c 0), (2, lk_vr f 0), (3, lk_vr g 0), (4, lk_vr h 0), (5, lk_vi (nI (k))), (6, lk_vi (nI (ru))), (7, lk_vi (nI (nb + na)))]) dX4_go_25 (by decide +kernel) rfl ?_
  refine lk_iconst (v := 0) dX4_go_27 (by decide) ?_
  refine lk_istore (L' := [(0, lk_vr y 0), (1, lk_vr c 0), (2, lk_vr f 0), (3, lk_vr g 0), (4, lk_vr h 0), (5, lk_vi (nI (k))), (6, lk_vi (nI (ru))), (7, lk_vi (nI (nb + na))), (8, lk_vi 0)]) dX4_go_28 (by decide +kernel) rfl ?_
  have LP30 : ∀ (fu : Nat) (i j : Nat) (sp : Int32) (V T : lk_O), i ≤ nb → j ≤ na → lk_cok V nl → R = lk_rr (σ f 2) (σ f 1) qb qa nb na k ru (nb + na - i - j) i j sp V T → nb + na - i - j < fu → lk_W l X mX4_go (d + 4) 30 [(0, lk_vr y 0), (1, lk_vr c 0), (2, lk_vr f 0), (3, lk_vr g 0), (4, lk_vr h 0), (5, lk_vi (nI (k))), (6, lk_vi (nI (ru))), (7, lk_vi (nI (nb + na))), (8, lk_vi (nI (i + j)))] [] (lk_so (lk_s2 σ c V T) y (lk_yy i j sp)) τ Q := by
    intro fu
    induction fu with
    | zero => intro i j sp V T hi hj hW hI hfu; exact absurd hfu (by omega)
    | succ fu ih =>
      intro i j sp V T hi hj hW hI hfu
      have hsc : (lk_so (lk_s2 σ c V T) y (lk_yy i j sp)) c = V := by rw [lk_so_ne (Ne.symm hyc), lk_s2_c]
      have hst : (lk_so (lk_s2 σ c V T) y (lk_yy i j sp)) (c + 1) = T := by rw [lk_so_ne (Ne.symm hyc1), lk_s2_t]
      have hsf : (lk_so (lk_s2 σ c V T) y (lk_yy i j sp)) f = σ f := by rw [lk_so_ne hfy, lk_s2_ne hfc hfc1]
      have hsg : (lk_so (lk_s2 σ c V T) y (lk_yy i j sp)) g = σ g := by rw [lk_so_ne hgy, lk_s2_ne hgc hgc1]
      have hsh : (lk_so (lk_s2 σ c V T) y (lk_yy i j sp)) h = σ h := by rw [lk_so_ne hhy, lk_s2_ne hhc hhc1]
      refine lk_iload dX4_go_30 rfl ?_
      refine lk_iload dX4_go_32 rfl ?_
      refine lk_icmp_geN (a := i + j) (b := nb + na) (tgt := 161) dX4_go_34 (by decide) (by omega) (by omega) (fun hh1 => ?_) (fun hh1 => ?_)
      ·
        refine lk_vret dX4_go_161 rfl ?_
        rw [hQ]
        rw [show nb + na - i - j = 0 by omega, lk_rr] at hI
        rw [hI]
        exact ⟨rfl, rfl, rfl⟩
      ·
        refine lk_aload_n dX4_go_37 rfl rfl ?_
        refine lk_iload dX4_go_38 rfl ?_
        refine lk_callV (o := c) (as := [lk_vi (nI (k))]) (S := []) dX4_go_40 rfl vX0_hasLock rfl lX4_26 hc rfl (Nat.le_of_ble_eq_true rfl) (tX0_hasLock_in l X (d + 3) (lk_so (lk_s2 σ c V T) y (lk_yy i j sp)) τ (c := c) (k := (k)) (hc := hc) (n := nl) (hn := by rw [hsc]; exact hW.1) (hk := hk) (hn6 := hW.2.2.1)) ?_
        refine lk_k3 ?_
        refine lk_cast (pc' := 43) (S' := [lk_vi 1]) rfl rfl rfl ?_
        refine lk_if_eq (tgt := 161) dX4_go_43 (by decide) (fun hh2 => absurd hh2 (by decide)) (fun hh2 => ?_)
        refine lk_aload_n dX4_go_46 rfl rfl ?_
        refine lk_aload_n dX4_go_47 rfl rfl ?_
        refine lk_aload_n dX4_go_48 rfl rfl ?_
        refine lk_aload dX4_go_49 rfl ?_
        refine lk_aload_n dX4_go_51 rfl rfl ?_
        refine lk_getR (f := 5) dX4_go_52 hc fX4_32 (by decide) (by decide) ?_
        refine lk_iload dX4_go_55 rfl ?_
        refine lk_zaldN (f := 5) (i := k) dX4_go_57 hc (by decide) rfl (by omega) (by decide) ?_
        refine lk_eqtop (y := (V 5 k)) (by rw [hsc]) ?_
        refine lk_iload dX4_go_58 rfl ?_
        rcases hfb : lk_frb (σ f 2) qb qa nb na i j (V 5 k) ru with _ | _
        ·
          refine lk_callV (o := y) (as := [lk_vr f 0, lk_vr g 0, lk_vr h 0, lk_vi (V 5 k), lk_vi (nI (ru))]) (S := []) dX4_go_60 rfl vX4_isFromBelowNext rfl lX4_36 hy rfl (Nat.le_of_ble_eq_true rfl) (tX4_isFromBelowNext_f l X d (lk_so (lk_s2 σ c V T) y (lk_yy i j sp)) τ (y := y) (f := f) (g := g) (h := h) (fu := (V 5 k)) (ru := (ru)) (hy := hy) (hf := hf) (n := n) (hn := by rw [hsf]; exact hn) (hn22 := hn22) (hg := hg) (hh := hh) (nb := nb) (na := na) (qb := qb) (qa := qa) (hgb := by rw [hsg]; exact hgb) (hha := by rw [hsh]; exact hha) (hnb := hnb) (hna := hna) (hqb := by rw [hsg]; exact hqb) (hqa := by rw [hsh]; exact hqa) (hqbn := hqbn) (hqan := hqan) (i := i) (j := j) (hi := by rw [lk_so_eq]; rfl) (hj := by rw [lk_so_eq]; rfl) (hi9 := by omega) (hj9 := by omega) (hru := hru) (hfb := by rw [hsf]; exact hfb)) ?_
          refine lk_k3 ?_
          refine lk_cast (pc' := 63) (S' := [lk_vi 0]) rfl rfl rfl ?_
          refine lk_istore (L' := [(0, lk_vr y 0), (1, lk_vr c 0), (2, lk_vr f 0), (3, lk_vr g 0), (4, lk_vr h 0), (5, lk_vi (nI (k))), (6, lk_vi (nI (ru))), (7, lk_vi (nI (nb + na))), (8, lk_vi (nI (i + j))), (9, lk_vi 0)]) dX4_go_63 (by decide +kernel) rfl ?_
          refine lk_iload dX4_go_65 rfl ?_
          refine lk_if_eq (tgt := 81) dX4_go_67 (by decide) (fun hh3 => ?_) (fun hh3 => absurd hh3 (by decide))
          refine lk_aload dX4_go_81 rfl ?_
          refine lk_aload_n dX4_go_83 rfl rfl ?_
          refine lk_getIv (v := nI (j)) (f := 1) dX4_go_84 hy fX4_15 (by decide) (by decide) (by rw [lk_so_eq]; rfl) ?_
          refine lk_callV (o := h) (as := [lk_vi (nI (j))]) (S := []) dX4_go_87 rfl vX3_boatAt rfl lX4_40 hh rfl (Nat.le_of_ble_eq_true rfl) (tX3_boatAt_in l X (d + 3) (lk_so (lk_s2 σ c V T) y (lk_yy i j sp)) τ (g := h) (i := (j)) (hg := hh) (hc := by rw [hsh]; exact hha) (hi := lk_frb_f hfb (by omega)) (hc22 := hna) (hx := by rw [hsh]; exact hqa j (lk_frb_f hfb (by omega)))) ?_
          refine lk_k3 ?_
          refine lk_cast (pc' := 90) (S' := [lk_vi (nI ((qa j)))]) rfl rfl rfl ?_
          refine lk_istore (L' := [(0, lk_vr y 0), (1, lk_vr c 0), (2, lk_vr f 0), (3, lk_vr g 0), (4, lk_vr h 0), (5, lk_vi (nI (k))), (6, lk_vi (nI (ru))), (7, lk_vi (nI (nb + na))), (8, lk_vi (nI (i + j))), (9, lk_vi 0), (10, lk_vi (nI ((qa j))))]) dX4_go_90 (by decide +kernel) rfl ?_
          refine lk_aload_n dX4_go_92 rfl rfl ?_
          refine lk_iload dX4_go_93 rfl ?_
          refine lk_iload dX4_go_95 rfl ?_
          refine lk_aload_n dX4_go_97 rfl rfl ?_
          refine lk_iload dX4_go_98 rfl ?_
          refine lk_callV (o := f) (as := [lk_vi (nI ((qa j)))]) (S := [lk_vi 0, lk_vi (nI (k)), lk_vr c 0]) dX4_go_100 rfl vX2_sizeOf rfl lX4_44 hf rfl (Nat.le_of_ble_eq_true rfl) (tX2_sizeOf l X (d + 2) (lk_so (lk_s2 σ c V T) y (lk_yy i j sp)) τ (f := f) (b := ((qa j))) (hf := hf) (n := n) (hn := by rw [hsf]; exact hn) (hb := hqan j (lk_frb_f hfb (by omega))) (hn22 := hn22)) ?_
          refine lk_k3 ?_
          refine lk_cast (pc' := 103) (S' := [lk_vi ((lk_so (lk_s2 σ c V T) y (lk_yy i j sp)) f 1 ((qa j))), lk_vi 0, lk_vi (nI (k)), lk_vr c 0]) rfl rfl rfl ?_
          refine lk_eqtop (y := (σ f 1 (qa j))) (by rw [hsf]) ?_
          rcases hp : lk_pas V k false (σ f 1 (qa j)) with V2 | q9
          ·
            have hzq := hz (qa j) (hqan j (lk_frb_f hfb (by omega)))
            refine lk_callV (o := c) (as := [lk_vi (nI (k)), lk_vi 0, lk_vi (σ f 1 (qa j))]) (S := []) dX4_go_103 rfl vX0_passage rfl lX4_49 hc rfl (Nat.le_of_ble_eq_true rfl) (tX0_passage_ok l X (d + 1) (lk_so (lk_s2 σ c V T) y (lk_yy i j sp)) τ (c := c) (k := (k)) (z := (σ f 1 (qa j))) (b := false) (hc := hc) (n := nl) (hV := by rw [hsc]; exact hW) (hk := hk) (V := V2) (h := by rw [hsc]; exact hp)) ?_
            refine lk_k3 ?_
            refine lk_cast (pc' := 106) (S' := [lk_vi ((lk_so (lk_s2 σ c V T) y (lk_yy i j sp)) c 6 ((k) + 1) - V2 6 ((k) + 1))]) rfl rfl rfl ?_
            refine lk_istore (L' := [(0, lk_vr y 0), (1, lk_vr c 0), (2, lk_vr f 0), (3, lk_vr g 0), (4, lk_vr h 0), (5, lk_vi (nI (k))), (6, lk_vi (nI (ru))), (7, lk_vi (nI (nb + na))), (8, lk_vi (nI (i + j))), (9, lk_vi 0), (10, lk_vi (nI ((qa j)))), (11, lk_vi ((lk_so (lk_s2 σ c V T) y (lk_yy i j sp)) c 6 ((k) + 1) - V2 6 ((k) + 1)))]) dX4_go_106 (by decide +kernel) rfl ?_
            refine lk_iload dX4_go_108 rfl ?_
            refine lk_ldc dX4_go_110 kX4_53 ?_
            refine lk_icmp_ne (tgt := 116) dX4_go_112 (by decide) (fun hh4 => ?_) (fun hh4 => absurd hh4 (lk_sp_ne (by rw [hsc]; exact (lk_pas_ok hp (hW.2.2.2 k hk6) hzq.1 hzq.2).2.2.1)))
            refine lk_aload_n dX4_go_116 rfl rfl ?_
            refine lk_dup dX4_go_117 rfl ?_
            refine lk_getIv (v := (sp)) (f := 2) dX4_go_118 hy fX4_18 (by decide) (by decide) (by rw [lk_s2_ne hyc hyc1, lk_so_eq]; rfl) ?_
            refine lk_iload dX4_go_121 rfl ?_
            refine lk_iadd dX4_go_123 ?_
            refine lk_putI (f := 2) dX4_go_124 hy fX4_18 (by decide) (by decide) ?_
            refine lk_iload dX4_go_127 rfl ?_
            refine lk_if_eq (tgt := 145) dX4_go_129 (by decide) (fun hh5 => ?_) (fun hh5 => absurd hh5 (by decide))
            refine lk_aload_n dX4_go_145 rfl rfl ?_
            refine lk_dup dX4_go_146 rfl ?_
            refine lk_getIv (v := nI (j)) (f := 1) dX4_go_147 hy fX4_15 (by decide) (by decide) (by rw [lk_up_so, lk_so_eq, lk_s2_ne hyc hyc1, lk_so_eq]; rfl) ?_
            refine lk_iconst (v := 1) dX4_go_150 (by decide) ?_
            refine lk_iaddN (a := j) (b := 1) dX4_go_151 ?_
            refine lk_putI (f := 1) dX4_go_152 hy fX4_15 (by decide) (by decide) ?_
            refine lk_iincN (a := i + j) (m := 1) (L' := [(0, lk_vr y 0), (1, lk_vr c 0), (2, lk_vr f 0), (3, lk_vr g 0), (4, lk_vr h 0), (5, lk_vi (nI (k))), (6, lk_vi (nI (ru))), (7, lk_vi (nI (nb + na))), (8, lk_vi (nI (i + j + 1))), (9, lk_vi 0), (10, lk_vi (nI ((qa j)))), (11, lk_vi ((lk_so (lk_s2 σ c V T) y (lk_yy i j sp)) c 6 ((k) + 1) - V2 6 ((k) + 1)))]) dX4_go_155 rfl rfl (by decide +kernel) rfl ?_
            refine lk_goto (tgt := 30) dX4_go_158 (by decide) ?_
            refine lk_sub (L' := [(0, lk_vr y 0), (1, lk_vr c 0), (2, lk_vr f 0), (3, lk_vr g 0), (4, lk_vr h 0), (5, lk_vi (nI (k))), (6, lk_vi (nI (ru))), (7, lk_vi (nI (nb + na))), (8, lk_vi (nI (i + j + 1)))]) [0, 1, 2, 3, 4, 5, 6, 7, 8] rfl ?_
            simp only [hsc, hst]
            refine lk_ext (lk_rrx hy hyc hyc1 V T V2 (lk_tad T (V 6 (k + 1) - V2 6 (k + 1))) (lk_yy i j sp) i (j + 1) (sp + (V 6 (k + 1) - V2 6 (k + 1))) 1 _ (Or.inr ⟨rfl, rfl, rfl⟩)) ?_
            rw [show nb + na - i - j = (nb + na - i - (j + 1)) + 1 by omega, lk_rr, hfb] at hI
            simp only [hp] at hI
            refine lk_cast (L' := [(0, lk_vr y 0), (1, lk_vr c 0), (2, lk_vr f 0), (3, lk_vr g 0), (4, lk_vr h 0), (5, lk_vi (nI k)), (6, lk_vi (nI ru)), (7, lk_vi (nI (nb + na))), (8, lk_vi (nI (i + (j + 1))))]) rfl (by rw [show i + (j + 1) = i + j + 1 by omega]) rfl ?_
            exact ih i (j + 1) _ V2 _ hi (lk_frb_f hfb (by omega)) (lk_pas_cok hp hk hW hzq.1 hzq.2) hI (by omega)
          ·
            refine lk_callV (o := c) (as := [lk_vi (nI (k)), lk_vi 0, lk_vi (σ f 1 (qa j))]) (S := []) dX4_go_103 rfl vX0_passage rfl lX4_49 hc rfl (Nat.le_of_ble_eq_true rfl) (tX0_passage_no l X (d + 1) (lk_so (lk_s2 σ c V T) y (lk_yy i j sp)) τ (c := c) (k := (k)) (z := (σ f 1 (qa j))) (b := false) (hc := hc) (n := nl) (hV := by rw [hsc]; exact hW) (hk := hk) (q := q9) (h := by rw [hsc]; exact hp)) ?_
            refine lk_k3 ?_
            refine lk_cast (pc' := 106) (S' := [lk_vi (-2000002)]) rfl rfl rfl ?_
            refine lk_istore (L' := [(0, lk_vr y 0), (1, lk_vr c 0), (2, lk_vr f 0), (3, lk_vr g 0), (4, lk_vr h 0), (5, lk_vi (nI (k))), (6, lk_vi (nI (ru))), (7, lk_vi (nI (nb + na))), (8, lk_vi (nI (i + j))), (9, lk_vi 0), (10, lk_vi (nI ((qa j)))), (11, lk_vi (-2000002))]) dX4_go_106 (by decide +kernel) rfl ?_
            refine lk_iload dX4_go_108 rfl ?_
            refine lk_ldc dX4_go_110 kX4_53 ?_
            refine lk_icmp_ne (tgt := 116) dX4_go_112 (by decide) (fun hh6 => absurd hh6 (by intro q7; exact q7 rfl)) (fun hh6 => ?_)
            refine lk_vret dX4_go_115 rfl ?_
            rw [hQ]
            rw [show nb + na - i - j = (nb + na - i - j - 1) + 1 by omega, lk_rr, hfb] at hI
            simp only [hp] at hI
            rw [hI]
            refine ⟨rfl, ?_, rfl⟩
            show lk_so _ (c + 2) _ = lk_so (lk_so (lk_s2 σ c V T) (c + 2) _) y _
            rw [lk_so_ne (Ne.symm hyc2), lk_s2_ne (by omega) (by omega)]
            exact lk_so_comm hyc2
        ·
          refine lk_callV (o := y) (as := [lk_vr f 0, lk_vr g 0, lk_vr h 0, lk_vi (V 5 k), lk_vi (nI (ru))]) (S := []) dX4_go_60 rfl vX4_isFromBelowNext rfl lX4_36 hy rfl (Nat.le_of_ble_eq_true rfl) (tX4_isFromBelowNext_t l X d (lk_so (lk_s2 σ c V T) y (lk_yy i j sp)) τ (y := y) (f := f) (g := g) (h := h) (fu := (V 5 k)) (ru := (ru)) (hy := hy) (hf := hf) (n := n) (hn := by rw [hsf]; exact hn) (hn22 := hn22) (hg := hg) (hh := hh) (nb := nb) (na := na) (qb := qb) (qa := qa) (hgb := by rw [hsg]; exact hgb) (hha := by rw [hsh]; exact hha) (hnb := hnb) (hna := hna) (hqb := by rw [hsg]; exact hqb) (hqa := by rw [hsh]; exact hqa) (hqbn := hqbn) (hqan := hqan) (i := i) (j := j) (hi := by rw [lk_so_eq]; rfl) (hj := by rw [lk_so_eq]; rfl) (hi9 := by omega) (hj9 := by omega) (hru := hru) (hfb := by rw [hsf]; exact hfb)) ?_
          refine lk_k3 ?_
          refine lk_cast (pc' := 63) (S' := [lk_vi 1]) rfl rfl rfl ?_
          refine lk_istore (L' := [(0, lk_vr y 0), (1, lk_vr c 0), (2, lk_vr f 0), (3, lk_vr g 0), (4, lk_vr h 0), (5, lk_vi (nI (k))), (6, lk_vi (nI (ru))), (7, lk_vi (nI (nb + na))), (8, lk_vi (nI (i + j))), (9, lk_vi 1)]) dX4_go_63 (by decide +kernel) rfl ?_
          refine lk_iload dX4_go_65 rfl ?_
          refine lk_if_eq (tgt := 81) dX4_go_67 (by decide) (fun hh7 => absurd hh7 (by decide)) (fun hh7 => ?_)
          refine lk_aload_n dX4_go_70 rfl rfl ?_
          refine lk_aload_n dX4_go_71 rfl rfl ?_
          refine lk_getIv (v := nI (i)) (f := 0) dX4_go_72 hy fX4_9 (by decide) (by decide) (by rw [lk_so_eq]; rfl) ?_
          refine lk_callV (o := g) (as := [lk_vi (nI (i))]) (S := []) dX4_go_75 rfl vX3_boatAt rfl lX4_40 hg rfl (Nat.le_of_ble_eq_true rfl) (tX3_boatAt_in l X (d + 3) (lk_so (lk_s2 σ c V T) y (lk_yy i j sp)) τ (g := g) (i := (i)) (hg := hg) (hc := by rw [hsg]; exact hgb) (hi := lk_frb_t hfb (by omega)) (hc22 := hnb) (hx := by rw [hsg]; exact hqb i (lk_frb_t hfb (by omega)))) ?_
          refine lk_k3 ?_
          refine lk_cast (pc' := 78) (S' := [lk_vi (nI ((qb i)))]) rfl rfl rfl ?_
          refine lk_goto (tgt := 90) dX4_go_78 (by decide) ?_
          refine lk_istore (L' := [(0, lk_vr y 0), (1, lk_vr c 0), (2, lk_vr f 0), (3, lk_vr g 0), (4, lk_vr h 0), (5, lk_vi (nI (k))), (6, lk_vi (nI (ru))), (7, lk_vi (nI (nb + na))), (8, lk_vi (nI (i + j))), (9, lk_vi 1), (10, lk_vi (nI ((qb i))))]) dX4_go_90 (by decide +kernel) rfl ?_
          refine lk_aload_n dX4_go_92 rfl rfl ?_
          refine lk_iload dX4_go_93 rfl ?_
          refine lk_iload dX4_go_95 rfl ?_
          refine lk_aload_n dX4_go_97 rfl rfl ?_
          refine lk_iload dX4_go_98 rfl ?_
          refine lk_callV (o := f) (as := [lk_vi (nI ((qb i)))]) (S := [lk_vi 1, lk_vi (nI (k)), lk_vr c 0]) dX4_go_100 rfl vX2_sizeOf rfl lX4_44 hf rfl (Nat.le_of_ble_eq_true rfl) (tX2_sizeOf l X (d + 2) (lk_so (lk_s2 σ c V T) y (lk_yy i j sp)) τ (f := f) (b := ((qb i))) (hf := hf) (n := n) (hn := by rw [hsf]; exact hn) (hb := hqbn i (lk_frb_t hfb (by omega))) (hn22 := hn22)) ?_
          refine lk_k3 ?_
          refine lk_cast (pc' := 103) (S' := [lk_vi ((lk_so (lk_s2 σ c V T) y (lk_yy i j sp)) f 1 ((qb i))), lk_vi 1, lk_vi (nI (k)), lk_vr c 0]) rfl rfl rfl ?_
          refine lk_eqtop (y := (σ f 1 (qb i))) (by rw [hsf]) ?_
          rcases hp : lk_pas V k true (σ f 1 (qb i)) with V2 | q9
          ·
            have hzq := hz (qb i) (hqbn i (lk_frb_t hfb (by omega)))
            refine lk_callV (o := c) (as := [lk_vi (nI (k)), lk_vi 1, lk_vi (σ f 1 (qb i))]) (S := []) dX4_go_103 rfl vX0_passage rfl lX4_49 hc rfl (Nat.le_of_ble_eq_true rfl) (tX0_passage_ok l X (d + 1) (lk_so (lk_s2 σ c V T) y (lk_yy i j sp)) τ (c := c) (k := (k)) (z := (σ f 1 (qb i))) (b := true) (hc := hc) (n := nl) (hV := by rw [hsc]; exact hW) (hk := hk) (V := V2) (h := by rw [hsc]; exact hp)) ?_
            refine lk_k3 ?_
            refine lk_cast (pc' := 106) (S' := [lk_vi ((lk_so (lk_s2 σ c V T) y (lk_yy i j sp)) c 6 ((k) + 1) - V2 6 ((k) + 1))]) rfl rfl rfl ?_
            refine lk_istore (L' := [(0, lk_vr y 0), (1, lk_vr c 0), (2, lk_vr f 0), (3, lk_vr g 0), (4, lk_vr h 0), (5, lk_vi (nI (k))), (6, lk_vi (nI (ru))), (7, lk_vi (nI (nb + na))), (8, lk_vi (nI (i + j))), (9, lk_vi 1), (10, lk_vi (nI ((qb i)))), (11, lk_vi ((lk_so (lk_s2 σ c V T) y (lk_yy i j sp)) c 6 ((k) + 1) - V2 6 ((k) + 1)))]) dX4_go_106 (by decide +kernel) rfl ?_
            refine lk_iload dX4_go_108 rfl ?_
            refine lk_ldc dX4_go_110 kX4_53 ?_
            refine lk_icmp_ne (tgt := 116) dX4_go_112 (by decide) (fun hh8 => ?_) (fun hh8 => absurd hh8 (lk_sp_ne (by rw [hsc]; exact (lk_pas_ok hp (hW.2.2.2 k hk6) hzq.1 hzq.2).2.2.1)))
            refine lk_aload_n dX4_go_116 rfl rfl ?_
            refine lk_dup dX4_go_117 rfl ?_
            refine lk_getIv (v := (sp)) (f := 2) dX4_go_118 hy fX4_18 (by decide) (by decide) (by rw [lk_s2_ne hyc hyc1, lk_so_eq]; rfl) ?_
            refine lk_iload dX4_go_121 rfl ?_
            refine lk_iadd dX4_go_123 ?_
            refine lk_putI (f := 2) dX4_go_124 hy fX4_18 (by decide) (by decide) ?_
            refine lk_iload dX4_go_127 rfl ?_
            refine lk_if_eq (tgt := 145) dX4_go_129 (by decide) (fun hh9 => absurd hh9 (by decide)) (fun hh9 => ?_)
            refine lk_aload_n dX4_go_132 rfl rfl ?_
            refine lk_dup dX4_go_133 rfl ?_
            refine lk_getIv (v := nI (i)) (f := 0) dX4_go_134 hy fX4_9 (by decide) (by decide) (by rw [lk_up_so, lk_so_eq, lk_s2_ne hyc hyc1, lk_so_eq]; rfl) ?_
            refine lk_iconst (v := 1) dX4_go_137 (by decide) ?_
            refine lk_iaddN (a := i) (b := 1) dX4_go_138 ?_
            refine lk_putI (f := 0) dX4_go_139 hy fX4_9 (by decide) (by decide) ?_
            refine lk_goto (tgt := 155) dX4_go_142 (by decide) ?_
            refine lk_iincN (a := i + j) (m := 1) (L' := [(0, lk_vr y 0), (1, lk_vr c 0), (2, lk_vr f 0), (3, lk_vr g 0), (4, lk_vr h 0), (5, lk_vi (nI (k))), (6, lk_vi (nI (ru))), (7, lk_vi (nI (nb + na))), (8, lk_vi (nI (i + j + 1))), (9, lk_vi 1), (10, lk_vi (nI ((qb i)))), (11, lk_vi ((lk_so (lk_s2 σ c V T) y (lk_yy i j sp)) c 6 ((k) + 1) - V2 6 ((k) + 1)))]) dX4_go_155 rfl rfl (by decide +kernel) rfl ?_
            refine lk_goto (tgt := 30) dX4_go_158 (by decide) ?_
            refine lk_sub (L' := [(0, lk_vr y 0), (1, lk_vr c 0), (2, lk_vr f 0), (3, lk_vr g 0), (4, lk_vr h 0), (5, lk_vi (nI (k))), (6, lk_vi (nI (ru))), (7, lk_vi (nI (nb + na))), (8, lk_vi (nI (i + j + 1)))]) [0, 1, 2, 3, 4, 5, 6, 7, 8] rfl ?_
            simp only [hsc, hst]
            refine lk_ext (lk_rrx hy hyc hyc1 V T V2 (lk_tad T (V 6 (k + 1) - V2 6 (k + 1))) (lk_yy i j sp) (i + 1) j (sp + (V 6 (k + 1) - V2 6 (k + 1))) 0 _ (Or.inl ⟨rfl, rfl, rfl⟩)) ?_
            rw [show nb + na - i - j = (nb + na - (i + 1) - j) + 1 by omega, lk_rr, hfb] at hI
            simp only [hp] at hI
            refine lk_cast (L' := [(0, lk_vr y 0), (1, lk_vr c 0), (2, lk_vr f 0), (3, lk_vr g 0), (4, lk_vr h 0), (5, lk_vi (nI k)), (6, lk_vi (nI ru)), (7, lk_vi (nI (nb + na))), (8, lk_vi (nI ((i + 1) + j)))]) rfl (by rw [show (i + 1) + j = i + j + 1 by omega]) rfl ?_
            exact ih (i + 1) j _ V2 _ (lk_frb_t hfb (by omega)) hj (lk_pas_cok hp hk hW hzq.1 hzq.2) hI (by omega)
          ·
            refine lk_callV (o := c) (as := [lk_vi (nI (k)), lk_vi 1, lk_vi (σ f 1 (qb i))]) (S := []) dX4_go_103 rfl vX0_passage rfl lX4_49 hc rfl (Nat.le_of_ble_eq_true rfl) (tX0_passage_no l X (d + 1) (lk_so (lk_s2 σ c V T) y (lk_yy i j sp)) τ (c := c) (k := (k)) (z := (σ f 1 (qb i))) (b := true) (hc := hc) (n := nl) (hV := by rw [hsc]; exact hW) (hk := hk) (q := q9) (h := by rw [hsc]; exact hp)) ?_
            refine lk_k3 ?_
            refine lk_cast (pc' := 106) (S' := [lk_vi (-2000002)]) rfl rfl rfl ?_
            refine lk_istore (L' := [(0, lk_vr y 0), (1, lk_vr c 0), (2, lk_vr f 0), (3, lk_vr g 0), (4, lk_vr h 0), (5, lk_vi (nI (k))), (6, lk_vi (nI (ru))), (7, lk_vi (nI (nb + na))), (8, lk_vi (nI (i + j))), (9, lk_vi 1), (10, lk_vi (nI ((qb i)))), (11, lk_vi (-2000002))]) dX4_go_106 (by decide +kernel) rfl ?_
            refine lk_iload dX4_go_108 rfl ?_
            refine lk_ldc dX4_go_110 kX4_53 ?_
            refine lk_icmp_ne (tgt := 116) dX4_go_112 (by decide) (fun hh10 => absurd hh10 (by intro q7; exact q7 rfl)) (fun hh10 => ?_)
            refine lk_vret dX4_go_115 rfl ?_
            rw [hQ]
            rw [show nb + na - i - j = (nb + na - i - j - 1) + 1 by omega, lk_rr, hfb] at hI
            simp only [hp] at hI
            rw [hI]
            refine ⟨rfl, ?_, rfl⟩
            show lk_so _ (c + 2) _ = lk_so (lk_so (lk_s2 σ c V T) (c + 2) _) y _
            rw [lk_so_ne (Ne.symm hyc2), lk_s2_ne (by omega) (by omega)]
            exact lk_so_comm hyc2
  refine lk_ext (σ' := lk_so (lk_s2 σ c (σ c) (σ (c + 1))) y (lk_yy 0 0 0)) (fun o f1 i1 hin => ?_) ?_
  · by_cases ho : o = y
    · subst ho
      obtain ⟨hf1, rfl⟩ := lk_inr4 hy hin
      rw [lk_so_eq]
      simp only [lk_up, lk_yy, lk_nI0]
      rcases (show f1 = 0 ∨ f1 = 1 ∨ f1 = 2 by omega) with rfl | rfl | rfl <;> simp
    · rw [lk_so_ne ho, lk_s2_self]
      simp only [lk_up]
      rw [if_neg (fun z => ho z.1), if_neg (fun z => ho z.1), if_neg (fun z => ho z.1)]
  exact LP30 (nb + na + 1) 0 0 0 (σ c) (σ (c + 1)) (Nat.zero_le _) (Nat.zero_le _) hV hR (by omega)
