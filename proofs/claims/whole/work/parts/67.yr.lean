abbrev lk_a : Type := Nat × Int32 × (Nat → Int32)
def lk_mt (p : lk_P) (f : lk_O → lk_a) (a : lk_a) : lk_a := match p with
  | .inl V => f V
  | .inr _ => a
/-- all orders from so many of both on: how many are good, the least, the first that does -/
def lk_wvm (Z : Nat → Int32) (qb qa : Nat → Nat) (k B A : Nat) : Nat → Nat → Nat → Int32 → lk_O → lk_a → (Nat → Int32) → lk_a
  | 0, i, j, so, _, a, row => (a.1 + 1, if so < a.2.1 then so else a.2.1, if so < a.2.1 then (fun x => if x < i + j then row x else a.2.2 x) else a.2.2)
  | r + 1, i, j, so, V, a, row =>
    (fun a1 : lk_a => if j < A then lk_mt (lk_pas V k false (Z (qa j))) (fun V' => lk_wvm Z qb qa k B A r i (j + 1) (so + (V 6 (k + 1) - V' 6 (k + 1))) V' a1 (lk_rw row (i + j) (nI (qa j)))) a1 else a1)
    (if i < B then lk_mt (lk_pas V k true (Z (qb i))) (fun V' => lk_wvm Z qb qa k B A r (i + 1) j (so + (V 6 (k + 1) - V' 6 (k + 1))) V' a (lk_rw row (i + j) (nI (qb i)))) a else a)
def lk_wvP (σ W : lk_N) (p : Nat) (a : lk_a) : Prop :=
  lk_fx [6, 7, 8, 9, 25, 26, 27, 28] σ W ∧ (∀ x, x < p → W 1 27 x = σ 1 27 x) ∧ W 1 25 0 = nI a.1 ∧ W 1 26 0 = a.2.1 ∧ ∀ x, W 1 28 x = a.2.2 x
theorem lk_min6m {n : Nat} (h : n ≤ 22) : (if nI n < 6 then nI n else 6) = nI (min n 6) :=
  (by decide : ∀ n, n < 23 → (if nI n < (6 : Int32) then nI n else 6) = nI (min n 6)) n (by omega)
theorem lk_bv_w {σ W : lk_N} {B : lk_O} {nf : Nat} (h : lk_fx [6, 7, 8, 9, 25, 26, 27, 28] σ W) (hB : lk_bv σ B nf) : lk_bv W B nf := lk_bv_e (funext fun x => h 1 0 x (by decide)) hB
theorem lk_lq_w {σ W : lk_N} {g h : Nat × (Nat → Nat)} (hf : lk_fx [6, 7, 8, 9, 25, 26, 27, 28] σ W) (hq : lk_lq σ g h) : lk_lq W g h := lk_lq_e hf (by decide) (by decide) (by decide) (by decide) hq
set_option maxHeartbeats 1000000 in
set_option maxRecDepth 100000 in
theorem tX9_weaves_0 (l : Launch) (X : lk_G) (d : Nat) (σ : lk_N) (τ : lk_T) (V T : lk_O) (n k : Nat) (hV : lk_cok V n) (hr : lk_rok V) (hk : k < n) (B : lk_O) (nf : Nat) (hn12 : nf ≤ 12) (hB : lk_bv σ B nf) (hz : ∀ b, b < nf → 0 ≤ (B 1 b).toInt ∧ (B 1 b).toInt ≤ 9) (hq : lk_lq σ (lk_qb B nf k) (lk_qa B nf k)) (bb aa : Nat) (hbb : bb = min (lk_qb B nf k).1 6) (haa : aa = min (lk_qa B nf k).1 6) (i j : Nat) (so : Int32) (hi : i ≤ bb) (hj : j ≤ aa) (a : lk_a) (row : Nat → Int32) (hg : σ 1 25 0 = nI a.1) (hb : σ 1 26 0 = a.2.1) (hrw : ∀ x, σ 1 28 x = a.2.2 x) (hro : ∀ x, x < i + j → σ 1 27 x = row x) (hib : i = bb) (hja : j = aa) : lk_Mt l X mX9_weaves (d + 3) [lk_vr 1 0, lk_vi (nI (k)), lk_vi (nI (i)), lk_vi (nI (j)), lk_vi (so)] (lk_ms σ V T) τ (fun rr σ1 τ1 => rr = none ∧ τ1 = τ ∧ ∃ W : lk_N, σ1 = lk_ms W V T ∧ lk_wvP σ W (i + j) (lk_wvm (B 1) (lk_qb B nf k).2 (lk_qa B nf k).2 k bb aa 0 i j so V a row)) := by
  refine lk_met (L := [(0, lk_vr 1 0), (1, lk_vi (nI (k))), (2, lk_vi (nI (i))), (3, lk_vi (nI (j))), (4, lk_vi (so))]) (by decide +kernel) (Nat.le_of_ble_eq_true rfl) rfl ?_
  obtain ⟨Q, hQ⟩ : ∃ Q : lk_Q, Q = fun rr σ1 τ1 => rr = none ∧ τ1 = τ ∧ ∃ W : lk_N, σ1 = lk_ms W V T ∧ lk_wvP σ W (i + j) (lk_wvm (B 1) (lk_qb B nf k).2 (lk_qa B nf k).2 k bb aa 0 i j so V a row) := ⟨_, rfl⟩
  rw [← hQ]
  have hk6 : k < 6 := Nat.lt_of_lt_of_le hk hV.2.2.1
  have hgb : (lk_qb B nf k).1 ≤ nf := lk_gat_le B (nI k) 1 nf
  have hga : (lk_qa B nf k).1 ≤ nf := lk_gat_le B (nI (k + 1)) 0 nf
  have hbb6 : bb ≤ 6 := by omega
  have haa6 : aa ≤ 6 := by omega
  have hbn : bb ≤ (lk_qb B nf k).1 := by omega
  have han : aa ≤ (lk_qa B nf k).1 := by omega
  refine lk_iload_n dX9_weaves_0 rfl rfl ?_
  refine lk_bipush (v := 6) dX9_weaves_1 (by decide) ?_
  refine lk_aload_n dX9_weaves_3 rfl rfl ?_
  refine lk_getIv (v := (nI ((lk_qb B nf k).1))) (f := 18) dX9_weaves_4 rfl fX9_168 (by decide) (by decide) ((lk_rf (by decide)).trans hq.1) ?_
  refine lk_mmin dX9_weaves_7 lX9_177 (Nat.le_of_ble_eq_true rfl) ?_
  refine lk_eqtop (y := (nI (bb))) (by rw [hbb]; exact lk_min6m (by omega)) ?_
  refine lk_icmp_neN (a := i) (b := bb) (tgt := 84) dX9_weaves_10 (by decide) (by omega) (by omega) (fun hh1 => absurd hh1 (fun q => q hib)) (fun hh1 => ?_)
  refine lk_iload_n dX9_weaves_13 rfl rfl ?_
  refine lk_bipush (v := 6) dX9_weaves_14 (by decide) ?_
  refine lk_aload_n dX9_weaves_16 rfl rfl ?_
  refine lk_getIv (v := (nI ((lk_qa B nf k).1))) (f := 19) dX9_weaves_17 rfl fX9_171 (by decide) (by decide) ((lk_rf (by decide)).trans hq.2.1) ?_
  refine lk_mmin dX9_weaves_20 lX9_177 (Nat.le_of_ble_eq_true rfl) ?_
  refine lk_eqtop (y := (nI (aa))) (by rw [haa]; exact lk_min6m (by omega)) ?_
  refine lk_icmp_neN (a := j) (b := aa) (tgt := 84) dX9_weaves_23 (by decide) (by omega) (by omega) (fun hh2 => absurd hh2 (fun q => q hja)) (fun hh2 => ?_)
  refine lk_aload_n dX9_weaves_26 rfl rfl ?_
  refine lk_dup dX9_weaves_27 rfl ?_
  refine lk_getIv (v := (nI (a.1))) (f := 25) dX9_weaves_28 rfl fX9_182 (by decide) (by decide) ((lk_rf (by decide)).trans hg) ?_
  refine lk_iconst (v := 1) dX9_weaves_31 (by decide) ?_
  refine lk_iaddN (a := a.1) (b := 1) dX9_weaves_32 ?_
  refine lk_putI (f := 25) dX9_weaves_33 rfl fX9_182 (by decide) (by decide) ?_
  refine lk_sg (σ' := (lk_ms (lk_up σ 1 25 0 (nI (a.1 + 1))) V T)) (lk_wf (by decide)) ?_
  refine lk_iload dX9_weaves_36 rfl ?_
  refine lk_aload_n dX9_weaves_38 rfl rfl ?_
  refine lk_getIv (v := (a.2.1)) (f := 26) dX9_weaves_39 rfl fX9_185 (by decide) (by decide) ((lk_rf (by decide)).trans hb) ?_
  refine lk_icmp_lt (tgt := 46) dX9_weaves_42 (by decide) (fun hh3 => ?_) (fun hh3 => ?_)
  ·
    refine lk_aload_n dX9_weaves_46 rfl rfl ?_
    refine lk_iload dX9_weaves_47 rfl ?_
    refine lk_putI (f := 26) dX9_weaves_49 rfl fX9_185 (by decide) (by decide) ?_
    refine lk_sg (σ' := (lk_ms (lk_up (lk_up σ 1 25 0 (nI (a.1 + 1))) 1 26 0 (so)) V T)) (lk_wf (by decide)) ?_
    refine lk_iconst (v := 0) dX9_weaves_52 (by decide) ?_
    refine lk_istore (L' := [(0, lk_vr 1 0), (1, lk_vi (nI (k))), (2, lk_vi (nI (i))), (3, lk_vi (nI (j))), (4, lk_vi (so)), (5, lk_vi 0)]) dX9_weaves_53 (by decide +kernel) rfl ?_
    have LP55 : ∀ (fu : Nat) (x : Nat) (R : Nat → Int32), x ≤ i + j → (∀ y, R y = if y < x then σ 1 27 y else σ 1 28 y) → i + j - x < fu → lk_W l X mX9_weaves (d + 3) 55 [(0, lk_vr 1 0), (1, lk_vi (nI (k))), (2, lk_vi (nI (i))), (3, lk_vi (nI (j))), (4, lk_vi (so)), (5, lk_vi (nI (x)))] [] (lk_ms (lk_sw (lk_up (lk_up σ 1 25 0 (nI (a.1 + 1))) 1 26 0 (so)) 1 28 R) V T) τ Q := by
      intro fu
      induction fu with
      | zero => intro x R hx hR hfu; exact absurd hfu (by omega)
      | succ fu ih =>
        intro x R hx hR hfu
        refine lk_iload dX9_weaves_55 rfl ?_
        refine lk_iload_n dX9_weaves_57 rfl rfl ?_
        refine lk_iload_n dX9_weaves_58 rfl rfl ?_
        refine lk_iaddN (a := i) (b := j) dX9_weaves_59 ?_
        refine lk_icmp_geN (a := x) (b := i + j) (tgt := 83) dX9_weaves_60 (by decide) (by omega) (by omega) (fun hh4 => ?_) (fun hh4 => ?_)
        ·
          refine lk_vret dX9_weaves_83 rfl ?_
          rw [hQ]
          have hxx : x = i + j := by omega
          subst hxx
          refine ⟨rfl, rfl, lk_sw (lk_up (lk_up σ 1 25 0 (nI (a.1 + 1))) 1 26 0 (so)) 1 28 R, rfl, lk_fx_sw (lk_fx_up (lk_fx_up (lk_fx_rf _ _) (by decide)) (by decide)) (by decide), fun x _ => rfl, rfl, ?_, fun x => ?_⟩
          · show so = _
            simp only [lk_wvm]; rw [if_pos (show so < a.2.1 by assumption)]
          · rw [lk_sw_at, hR]
            simp only [lk_wvm]; rw [if_pos (show so < a.2.1 by assumption)]
            show _ = if x < i + j then row x else a.2.2 x
            by_cases c : x < i + j
            · rw [if_pos c, if_pos c, hro x c]
            · rw [if_neg c, if_neg c, hrw]
        ·
          refine lk_aload_n dX9_weaves_63 rfl rfl ?_
          refine lk_getR (f := 28) dX9_weaves_64 rfl fX9_39 (by decide) (by decide) ?_
          refine lk_iload dX9_weaves_67 rfl ?_
          refine lk_aload_n dX9_weaves_69 rfl rfl ?_
          refine lk_getR (f := 27) dX9_weaves_70 rfl fX9_36 (by decide) (by decide) ?_
          refine lk_iload dX9_weaves_73 rfl ?_
          refine lk_ialdN (f := 27) (i := x) dX9_weaves_75 rfl (by decide) rfl (by omega) (by decide) ?_
          refine lk_eqtop (y := (σ 1 27 x)) ((lk_rf (by decide)).trans rfl) ?_
          refine lk_iastN (f := 28) (i := x) (v := (σ 1 27 x)) dX9_weaves_76 rfl (by decide) rfl (by omega) (by decide) ?_
          refine lk_sg (σ' := (lk_ms (lk_up (lk_sw (lk_up (lk_up σ 1 25 0 (nI (a.1 + 1))) 1 26 0 (so)) 1 28 R) 1 28 (x) (σ 1 27 x)) V T)) (lk_wf (by decide)) ?_
          refine lk_iincN (a := x) (m := 1) (L' := [(0, lk_vr 1 0), (1, lk_vi (nI (k))), (2, lk_vi (nI (i))), (3, lk_vi (nI (j))), (4, lk_vi (so)), (5, lk_vi (nI (x + 1)))]) dX9_weaves_77 rfl rfl (by decide +kernel) rfl ?_
          refine lk_goto (tgt := 55) dX9_weaves_80 (by decide) ?_
          rw [lk_up_sw]
          exact ih (x + 1) _ (by omega) (fun y => by
            simp only [lk_rw]
            by_cases e : y = x
            · subst e; simp
            · rw [if_neg e, hR y]
              by_cases c : y < x
              · rw [if_pos c, if_pos (by omega)]
              · rw [if_neg c, if_neg (by omega)]) (by omega)
    refine lk_sg (σ' := lk_ms (lk_sw (lk_up (lk_up σ 1 25 0 (nI (a.1 + 1))) 1 26 0 (so)) 1 28 (σ 1 28)) V T) (by rw [show σ 1 28 = (lk_up (lk_up σ 1 25 0 (nI (a.1 + 1))) 1 26 0 (so)) 1 28 from rfl, lk_sw_self]) ?_
    exact LP55 (i + j + 1) 0 _ (by omega) (fun y => by simp) (by omega)
  ·
    refine lk_vret dX9_weaves_45 rfl ?_
    rw [hQ]
    exact ⟨rfl, rfl, (lk_up σ 1 25 0 (nI (a.1 + 1))), rfl, (lk_fx_up (lk_fx_rf _ _) (by decide)), fun x _ => rfl, rfl, by show σ 1 26 0 = _; simp only [lk_wvm]; rw [if_neg (show ¬ so < a.2.1 by assumption), hb], fun x => by show σ 1 28 x = _; simp only [lk_wvm]; rw [if_neg (show ¬ so < a.2.1 by assumption), hrw]⟩

set_option maxHeartbeats 1000000 in
set_option maxRecDepth 100000 in
theorem tX9_weaves_s (l : Launch) (X : lk_G) (d : Nat) (σ : lk_N) (τ : lk_T) (V T : lk_O) (n k : Nat) (hV : lk_cok V n) (hr : lk_rok V) (hk : k < n) (B : lk_O) (nf : Nat) (hn12 : nf ≤ 12) (hB : lk_bv σ B nf) (hz : ∀ b, b < nf → 0 ≤ (B 1 b).toInt ∧ (B 1 b).toInt ≤ 9) (hq : lk_lq σ (lk_qb B nf k) (lk_qa B nf k)) (bb aa : Nat) (hbb : bb = min (lk_qb B nf k).1 6) (haa : aa = min (lk_qa B nf k).1 6) (i j : Nat) (so : Int32) (hi : i ≤ bb) (hj : j ≤ aa) (a : lk_a) (row : Nat → Int32) (hg : σ 1 25 0 = nI a.1) (hb : σ 1 26 0 = a.2.1) (hrw : ∀ x, σ 1 28 x = a.2.2 x) (hro : ∀ x, x < i + j → σ 1 27 x = row x) (r : Nat) (hrr : r + 1 = bb + aa - i - j) (ihw : ∀ (σ : lk_N) (V : lk_O) (i j : Nat) (so : Int32) (a : lk_a) (row : Nat → Int32), lk_cok V n → lk_rok V → lk_bv σ B nf → lk_lq σ (lk_qb B nf k) (lk_qa B nf k) → i ≤ bb → j ≤ aa → r = bb + aa - i - j → σ 1 25 0 = nI a.1 → σ 1 26 0 = a.2.1 → (∀ x, σ 1 28 x = a.2.2 x) → (∀ x, x < i + j → σ 1 27 x = row x) →
  lk_Mt l X mX9_weaves (d + 2) [lk_vr 1 0, lk_vi (nI k), lk_vi (nI i), lk_vi (nI j), lk_vi so] (lk_ms σ V T) τ (fun rr σ1 τ1 => rr = none ∧ τ1 = τ ∧ ∃ W : lk_N, σ1 = lk_ms W V T ∧ lk_wvP σ W (i + j) (lk_wvm (B 1) (lk_qb B nf k).2 (lk_qa B nf k).2 k bb aa r i j so V a row))) : lk_Mt l X mX9_weaves (d + 3) [lk_vr 1 0, lk_vi (nI (k)), lk_vi (nI (i)), lk_vi (nI (j)), lk_vi (so)] (lk_ms σ V T) τ (fun rr σ1 τ1 => rr = none ∧ τ1 = τ ∧ ∃ W : lk_N, σ1 = lk_ms W V T ∧ lk_wvP σ W (i + j) (lk_wvm (B 1) (lk_qb B nf k).2 (lk_qa B nf k).2 k bb aa (r + 1) i j so V a row)) := by
  refine lk_met (L := [(0, lk_vr 1 0), (1, lk_vi (nI (k))), (2, lk_vi (nI (i))), (3, lk_vi (nI (j))), (4, lk_vi (so))]) (by decide +kernel) (Nat.le_of_ble_eq_true rfl) rfl ?_
  obtain ⟨Q, hQ⟩ : ∃ Q : lk_Q, Q = fun rr σ1 τ1 => rr = none ∧ τ1 = τ ∧ ∃ W : lk_N, σ1 = lk_ms W V T ∧ lk_wvP σ W (i + j) (lk_wvm (B 1) (lk_qb B nf k).2 (lk_qa B nf k).2 k bb aa (r + 1) i j so V a row) := ⟨_, rfl⟩
  rw [← hQ]
  have hk6 : k < 6 := Nat.lt_of_lt_of_le hk hV.2.2.1
  have hgb : (lk_qb B nf k).1 ≤ nf := lk_gat_le B (nI k) 1 nf
  have hga : (lk_qa B nf k).1 ≤ nf := lk_gat_le B (nI (k + 1)) 0 nf
  have hbb6 : bb ≤ 6 := by omega
  have haa6 : aa ≤ 6 := by omega
  have hbn : bb ≤ (lk_qb B nf k).1 := by omega
  have han : aa ≤ (lk_qa B nf k).1 := by omega
  refine lk_iload_n dX9_weaves_0 rfl rfl ?_
  refine lk_bipush (v := 6) dX9_weaves_1 (by decide) ?_
  refine lk_aload_n dX9_weaves_3 rfl rfl ?_
  refine lk_getIv (v := (nI ((lk_qb B nf k).1))) (f := 18) dX9_weaves_4 rfl fX9_168 (by decide) (by decide) ((lk_rf (by decide)).trans hq.1) ?_
  refine lk_mmin dX9_weaves_7 lX9_177 (Nat.le_of_ble_eq_true rfl) ?_
  refine lk_eqtop (y := (nI (bb))) (by rw [hbb]; exact lk_min6m (by omega)) ?_
  refine lk_icmp_neN (a := i) (b := bb) (tgt := 84) dX9_weaves_10 (by decide) (by omega) (by omega) (fun hh1 => ?_) (fun hh1 => ?_)
  ·
    refine lk_aload_n dX9_weaves_84 rfl rfl ?_
    refine lk_getR (f := 0) dX9_weaves_85 rfl fX9_9 (by decide) (by decide) ?_
    refine lk_bipush (v := 24) dX9_weaves_88 (by decide) ?_
    refine lk_iload_n dX9_weaves_90 rfl rfl ?_
    refine lk_iaddN (a := 24) (b := k) dX9_weaves_91 ?_
    refine lk_ialdN (f := 0) (i := 24 + k) dX9_weaves_92 rfl (by decide) rfl (by omega) (by decide) ?_
    refine lk_eqtop (y := (V 6 (k))) (lk_r6 (by omega) (by omega)) ?_
    refine lk_istore (L' := [(0, lk_vr 1 0), (1, lk_vi (nI (k))), (2, lk_vi (nI (i))), (3, lk_vi (nI (j))), (4, lk_vi (so)), (5, lk_vi (V 6 (k)))]) dX9_weaves_93 (by decide +kernel) rfl ?_
    refine lk_aload_n dX9_weaves_95 rfl rfl ?_
    refine lk_getR (f := 0) dX9_weaves_96 rfl fX9_9 (by decide) (by decide) ?_
    refine lk_bipush (v := 24) dX9_weaves_99 (by decide) ?_
    refine lk_iload_n dX9_weaves_101 rfl rfl ?_
    refine lk_iaddN (a := 24) (b := k) dX9_weaves_102 ?_
    refine lk_iconst (v := 1) dX9_weaves_103 (by decide) ?_
    refine lk_iaddN (a := 24 + k) (b := 1) dX9_weaves_104 ?_
    refine lk_ialdN (f := 0) (i := 24 + k + 1) dX9_weaves_105 rfl (by decide) rfl (by omega) (by decide) ?_
    refine lk_eqtop (y := (V 6 (k + 1))) (lk_r6 (by omega) (by omega)) ?_
    refine lk_istore (L' := [(0, lk_vr 1 0), (1, lk_vi (nI (k))), (2, lk_vi (nI (i))), (3, lk_vi (nI (j))), (4, lk_vi (so)), (5, lk_vi (V 6 (k))), (6, lk_vi (V 6 (k + 1)))]) dX9_weaves_106 (by decide +kernel) rfl ?_
    refine lk_aload_n dX9_weaves_108 rfl rfl ?_
    refine lk_getR (f := 0) dX9_weaves_109 rfl fX9_9 (by decide) (by decide) ?_
    refine lk_bipush (v := 12) dX9_weaves_112 (by decide) ?_
    refine lk_iload_n dX9_weaves_114 rfl rfl ?_
    refine lk_iaddN (a := 12) (b := k) dX9_weaves_115 ?_
    refine lk_ialdN (f := 0) (i := 12 + k) dX9_weaves_116 rfl (by decide) rfl (by omega) (by decide) ?_
    refine lk_eqtop (y := (V 4 (k))) (lk_r4 (by omega) (by omega)) ?_
    refine lk_istore (L' := [(0, lk_vr 1 0), (1, lk_vi (nI (k))), (2, lk_vi (nI (i))), (3, lk_vi (nI (j))), (4, lk_vi (so)), (5, lk_vi (V 6 (k))), (6, lk_vi (V 6 (k + 1))), (7, lk_vi (V 4 (k)))]) dX9_weaves_117 (by decide +kernel) rfl ?_
    refine lk_aload_n dX9_weaves_119 rfl rfl ?_
    refine lk_getR (f := 0) dX9_weaves_120 rfl fX9_9 (by decide) (by decide) ?_
    refine lk_bipush (v := 18) dX9_weaves_123 (by decide) ?_
    refine lk_iload_n dX9_weaves_125 rfl rfl ?_
    refine lk_iaddN (a := 18) (b := k) dX9_weaves_126 ?_
    refine lk_ialdN (f := 0) (i := 18 + k) dX9_weaves_127 rfl (by decide) rfl (by omega) (by decide) ?_
    refine lk_eqtop (y := (V 5 (k))) (lk_r5 (by omega) (by omega)) ?_
    refine lk_istore (L' := [(0, lk_vr 1 0), (1, lk_vi (nI (k))), (2, lk_vi (nI (i))), (3, lk_vi (nI (j))), (4, lk_vi (so)), (5, lk_vi (V 6 (k))), (6, lk_vi (V 6 (k + 1))), (7, lk_vi (V 4 (k))), (8, lk_vi (V 5 (k)))]) dX9_weaves_128 (by decide +kernel) rfl ?_
    refine lk_iconst (v := 0) dX9_weaves_130 (by decide) ?_
    refine lk_istore (L' := [(0, lk_vr 1 0), (1, lk_vi (nI (k))), (2, lk_vi (nI (i))), (3, lk_vi (nI (j))), (4, lk_vi (so)), (5, lk_vi (V 6 (k))), (6, lk_vi (V 6 (k + 1))), (7, lk_vi (V 4 (k))), (8, lk_vi (V 5 (k))), (9, lk_vi 0)]) dX9_weaves_131 (by decide +kernel) rfl ?_
    refine lk_iload dX9_weaves_133 rfl ?_
    refine lk_iconst (v := 2) dX9_weaves_135 (by decide) ?_
    refine lk_icmp_geN (a := 0) (b := 2) (tgt := 324) dX9_weaves_136 (by decide) (by omega) (by omega) (fun hh2 => absurd hh2 (by decide)) (fun hh2 => ?_)
    refine lk_iload dX9_weaves_139 rfl ?_
    refine lk_if_ne (tgt := 160) dX9_weaves_141 (by decide) (fun hh3 => absurd hh3 (by decide)) (fun hh3 => ?_)
    refine lk_iload_n dX9_weaves_144 rfl rfl ?_
    refine lk_bipush (v := 6) dX9_weaves_145 (by decide) ?_
    refine lk_aload_n dX9_weaves_147 rfl rfl ?_
    refine lk_getIv (v := (nI ((lk_qb B nf k).1))) (f := 18) dX9_weaves_148 rfl fX9_168 (by decide) (by decide) ((lk_rf (by decide)).trans hq.1) ?_
    refine lk_mmin dX9_weaves_151 lX9_177 (Nat.le_of_ble_eq_true rfl) ?_
    refine lk_eqtop (y := (nI (bb))) (by rw [hbb]; exact lk_min6m (by omega)) ?_
    refine lk_icmp_neN (a := i) (b := bb) (tgt := 176) dX9_weaves_154 (by decide) (by omega) (by omega) (fun hh4 => ?_) (fun hh4 => ?_)
    ·
      refine lk_iload dX9_weaves_176 rfl ?_
      refine lk_if_ne (tgt := 190) dX9_weaves_178 (by decide) (fun hh5 => absurd hh5 (by decide)) (fun hh5 => ?_)
      refine lk_aload_n dX9_weaves_181 rfl rfl ?_
      refine lk_getR (f := 20) dX9_weaves_182 rfl fX9_30 (by decide) (by decide) ?_
      refine lk_iload_n dX9_weaves_185 rfl rfl ?_
      refine lk_ialdN (f := 20) (i := i) dX9_weaves_186 rfl (by decide) rfl (by omega) (by decide) ?_
      refine lk_eqtop (y := (nI ((lk_qb B nf k).2 i))) ((lk_rf (by decide)).trans (hq.2.2.1 i (by omega))) ?_
      refine lk_goto (tgt := 196) dX9_weaves_187 (by decide) ?_
      refine lk_istore (L' := [(0, lk_vr 1 0), (1, lk_vi (nI (k))), (2, lk_vi (nI (i))), (3, lk_vi (nI (j))), (4, lk_vi (so)), (5, lk_vi (V 6 (k))), (6, lk_vi (V 6 (k + 1))), (7, lk_vi (V 4 (k))), (8, lk_vi (V 5 (k))), (9, lk_vi 0), (10, lk_vi (nI ((lk_qb B nf k).2 i)))]) dX9_weaves_196 (by decide +kernel) rfl ?_
      have hql : ((lk_qb B nf k).2 i) < nf := lk_gat_lt B (nI k) 1 nf i (show i < (lk_qb B nf k).1 by omega)
      refine lk_aload_n dX9_weaves_198 rfl rfl ?_
      refine lk_iload_n dX9_weaves_199 rfl rfl ?_
      refine lk_iload dX9_weaves_200 rfl ?_
      refine lk_if_ne (tgt := 209) dX9_weaves_202 (by decide) (fun hh6 => absurd hh6 (by decide)) (fun hh6 => ?_)
      refine lk_iconst (v := 1) dX9_weaves_205 (by decide) ?_
      refine lk_goto (tgt := 210) dX9_weaves_206 (by decide) ?_
      refine lk_aload_n dX9_weaves_210 rfl rfl ?_
      refine lk_getR (f := 0) dX9_weaves_211 rfl fX9_9 (by decide) (by decide) ?_
      refine lk_bipush (v := 66) dX9_weaves_214 (by decide) ?_
      refine lk_iload dX9_weaves_216 rfl ?_
      refine lk_iaddN (a := 66) (b := (lk_qb B nf k).2 i) dX9_weaves_218 ?_
      refine lk_ialdN (f := 0) (i := 66 + (lk_qb B nf k).2 i) dX9_weaves_219 rfl (by decide) rfl (by omega) (by decide) ?_
      refine lk_eqtop (y := (B 1 ((lk_qb B nf k).2 i))) ((lk_rB (by omega)).trans (hB _ hql).2.1) ?_
      rcases hp : lk_pas V k true (B 1 ((lk_qb B nf k).2 i)) with V2 | q
      ·
        have hnV2 := (lk_pas_ok hp (hV.2.2.2 k hk6) (hz _ hql).1 (hz _ hql).2).1
        refine lk_callV (o := 1) (as := [lk_vi (nI (k)), lk_vi 1, lk_vi (B 1 ((lk_qb B nf k).2 i))]) (S := []) dX9_weaves_220 rfl vX9_goes rfl lX9_140 rfl rfl (Nat.le_of_ble_eq_true rfl) (tX9_goes_up_ok l X d σ τ (k := (k)) (z := (B 1 ((lk_qb B nf k).2 i))) (V := V) (T := T) (n := n) (hV := hV) (hr := hr) (hk := hk) (W := V2) (h := hp)) ?_
        refine lk_k3 ?_
        refine lk_cast (pc' := 223) (S' := [lk_vi 1]) rfl rfl rfl ?_
        refine lk_if_eq (tgt := 272) dX9_weaves_223 (by decide) (fun hh7 => absurd hh7 (by decide)) (fun hh7 => ?_)
        refine lk_aload_n dX9_weaves_226 rfl rfl ?_
        refine lk_getR (f := 27) dX9_weaves_227 rfl fX9_36 (by decide) (by decide) ?_
        refine lk_iload_n dX9_weaves_230 rfl rfl ?_
        refine lk_iload_n dX9_weaves_231 rfl rfl ?_
        refine lk_iaddN (a := i) (b := j) dX9_weaves_232 ?_
        refine lk_iload dX9_weaves_233 rfl ?_
        refine lk_iastN (f := 27) (i := i + j) (v := (nI ((lk_qb B nf k).2 i))) dX9_weaves_235 rfl (by decide) rfl (by omega) (by decide) ?_
        refine lk_sg (σ' := (lk_ms (lk_up (lk_up σ 1 6 0 (V 6 (k + 1) - V2 6 (k + 1))) 1 27 (i + j) (nI ((lk_qb B nf k).2 i))) V2 T)) (lk_wf (by decide)) ?_
        refine lk_aload_n dX9_weaves_236 rfl rfl ?_
        refine lk_iload_n dX9_weaves_237 rfl rfl ?_
        refine lk_iload dX9_weaves_238 rfl ?_
        refine lk_if_ne (tgt := 249) dX9_weaves_240 (by decide) (fun hh8 => absurd hh8 (by decide)) (fun hh8 => ?_)
        refine lk_iload_n dX9_weaves_243 rfl rfl ?_
        refine lk_iconst (v := 1) dX9_weaves_244 (by decide) ?_
        refine lk_iaddN (a := i) (b := 1) dX9_weaves_245 ?_
        refine lk_goto (tgt := 250) dX9_weaves_246 (by decide) ?_
        refine lk_iload dX9_weaves_250 rfl ?_
        refine lk_if_ne (tgt := 259) dX9_weaves_252 (by decide) (fun hh9 => absurd hh9 (by decide)) (fun hh9 => ?_)
        refine lk_iload_n dX9_weaves_255 rfl rfl ?_
        refine lk_goto (tgt := 262) dX9_weaves_256 (by decide) ?_
        refine lk_iload dX9_weaves_262 rfl ?_
        refine lk_aload_n dX9_weaves_264 rfl rfl ?_
        refine lk_getIv (v := ((V 6 (k + 1) - V2 6 (k + 1)))) (f := 6) dX9_weaves_265 rfl fX9_137 (by decide) (by decide) ((lk_rf (by decide)).trans rfl) ?_
        refine lk_iadd dX9_weaves_268 ?_
        refine lk_callV (o := 1) (as := [lk_vi (nI (k)), lk_vi (nI (i + 1)), lk_vi (nI (j)), lk_vi ((so) + ((V 6 (k + 1) - V2 6 (k + 1))))]) (S := []) dX9_weaves_269 rfl vX9_weaves rfl lX9_188 rfl rfl (Nat.le_of_ble_eq_true rfl) (ihw (lk_up (lk_up σ 1 6 0 (V 6 (k + 1) - V2 6 (k + 1))) 1 27 (i + j) (nI ((lk_qb B nf k).2 i))) V2 (i + 1) j (((so) + ((V 6 (k + 1) - V2 6 (k + 1))))) a (lk_rw row (i + j) (nI ((lk_qb B nf k).2 i))) (lk_pas_cok hp hk hV (hz _ hql).1 (hz _ hql).2) (lk_pas_rok hr hk6 hp) (lk_bv_w (σ := σ) (lk_fx_up (lk_fx_up (lk_fx_rf _ _) (by decide)) (by decide)) hB) (lk_lq_w (σ := σ) (lk_fx_up (lk_fx_up (lk_fx_rf _ _) (by decide)) (by decide)) hq) (by omega) (by omega) (by omega) hg hb hrw (fun x hx => by
              simp only [lk_up, lk_rw]
              by_cases c : x = i + j
              · subst c; simp
              · rw [if_neg (by simp [c]), if_neg c]
                exact hro x (by omega))) ?_
        refine lk_k4 (fun W1 hW1 => ?_)
        refine lk_cast (pc' := 272) (S' := []) rfl rfl rfl ?_
        refine lk_sg (σ' := (lk_ms W1 V2 T)) rfl ?_
        refine lk_aload_n dX9_weaves_272 rfl rfl ?_
        refine lk_getR (f := 0) dX9_weaves_273 rfl fX9_9 (by decide) (by decide) ?_
        refine lk_bipush (v := 24) dX9_weaves_276 (by decide) ?_
        refine lk_iload_n dX9_weaves_278 rfl rfl ?_
        refine lk_iaddN (a := 24) (b := k) dX9_weaves_279 ?_
        refine lk_iload dX9_weaves_280 rfl ?_
        refine lk_iastN (f := 0) (i := 24 + k) (v := (V 6 (k))) dX9_weaves_282 rfl (by decide) rfl (by omega) (by decide) ?_
        refine lk_sg (σ' := (lk_ms W1 (lk_ou V2 6 (k) (V 6 (k))) T)) (lk_w6 (by omega) (by omega)) ?_
        refine lk_aload_n dX9_weaves_283 rfl rfl ?_
        refine lk_getR (f := 0) dX9_weaves_284 rfl fX9_9 (by decide) (by decide) ?_
        refine lk_bipush (v := 24) dX9_weaves_287 (by decide) ?_
        refine lk_iload_n dX9_weaves_289 rfl rfl ?_
        refine lk_iaddN (a := 24) (b := k) dX9_weaves_290 ?_
        refine lk_iconst (v := 1) dX9_weaves_291 (by decide) ?_
        refine lk_iaddN (a := 24 + k) (b := 1) dX9_weaves_292 ?_
        refine lk_iload dX9_weaves_293 rfl ?_
        refine lk_iastN (f := 0) (i := 24 + k + 1) (v := (V 6 (k + 1))) dX9_weaves_295 rfl (by decide) rfl (by omega) (by decide) ?_
        refine lk_sg (σ' := (lk_ms W1 (lk_ou (lk_ou V2 6 (k) (V 6 (k))) 6 (k + 1) (V 6 (k + 1))) T)) (lk_w6 (by omega) (by omega)) ?_
        refine lk_aload_n dX9_weaves_296 rfl rfl ?_
        refine lk_getR (f := 0) dX9_weaves_297 rfl fX9_9 (by decide) (by decide) ?_
        refine lk_bipush (v := 12) dX9_weaves_300 (by decide) ?_
        refine lk_iload_n dX9_weaves_302 rfl rfl ?_
        refine lk_iaddN (a := 12) (b := k) dX9_weaves_303 ?_
        refine lk_iload dX9_weaves_304 rfl ?_
        refine lk_iastN (f := 0) (i := 12 + k) (v := (V 4 (k))) dX9_weaves_306 rfl (by decide) rfl (by omega) (by decide) ?_
        refine lk_sg (σ' := (lk_ms W1 (lk_ou (lk_ou (lk_ou V2 6 (k) (V 6 (k))) 6 (k + 1) (V 6 (k + 1))) 4 (k) (V 4 (k))) T)) (lk_w4 (by omega) (by omega)) ?_
        refine lk_aload_n dX9_weaves_307 rfl rfl ?_
        refine lk_getR (f := 0) dX9_weaves_308 rfl fX9_9 (by decide) (by decide) ?_
        refine lk_bipush (v := 18) dX9_weaves_311 (by decide) ?_
        refine lk_iload_n dX9_weaves_313 rfl rfl ?_
        refine lk_iaddN (a := 18) (b := k) dX9_weaves_314 ?_
        refine lk_iload dX9_weaves_315 rfl ?_
        refine lk_iastN (f := 0) (i := 18 + k) (v := (V 5 (k))) dX9_weaves_317 rfl (by decide) rfl (by omega) (by decide) ?_
        refine lk_sg (σ' := (lk_ms W1 (lk_ou (lk_ou (lk_ou (lk_ou V2 6 (k) (V 6 (k))) 6 (k + 1) (V 6 (k + 1))) 4 (k) (V 4 (k))) 5 (k) (V 5 (k))) T)) (lk_w5 (by omega) (by omega)) ?_
        refine lk_sg (σ' := lk_ms W1 V T) (by rw [lk_near_back hnV2]) ?_
        obtain ⟨a1, ha1⟩ : ∃ a1 : lk_a, a1 = (if i < bb then lk_mt (lk_pas V k true (B 1 ((lk_qb B nf k).2 i))) (fun V' => lk_wvm (B 1) (lk_qb B nf k).2 (lk_qa B nf k).2 k bb aa r (i + 1) j (so + (V 6 (k + 1) - V' 6 (k + 1))) V' a (lk_rw row (i + j) (nI ((lk_qb B nf k).2 i)))) a else a) := ⟨_, rfl⟩
        have ha2 := ha1
        rw [if_pos (show i < bb by omega), hp] at ha2
        have hA : lk_fx [6, 7, 8, 9, 25, 26, 27, 28] σ W1 ∧ (∀ x, x < i + j → W1 1 27 x = row x) ∧ W1 1 25 0 = nI a1.1 ∧ W1 1 26 0 = a1.2.1 ∧ ∀ x, W1 1 28 x = a1.2.2 x := ⟨(lk_fx_tr (lk_fx_up (lk_fx_up (lk_fx_rf _ _) (by decide)) (by decide)) hW1.1), fun x hx => (hW1.2.1 x (by omega)).trans (by simp only [lk_up]; rw [if_neg (by simp; omega), if_neg (by simp)]; exact hro x hx), by rw [ha2]; exact hW1.2.2.1, by rw [ha2]; exact hW1.2.2.2.1, fun x => by rw [ha2]; exact hW1.2.2.2.2 x⟩
        obtain ⟨Wa, hWa, fa, oa, ga, ba, ra⟩ : ∃ w : lk_N, w = W1 ∧ (lk_fx [6, 7, 8, 9, 25, 26, 27, 28] σ w ∧ (∀ x, x < i + j → w 1 27 x = row x) ∧ w 1 25 0 = nI a1.1 ∧ w 1 26 0 = a1.2.1 ∧ ∀ x, w 1 28 x = a1.2.2 x) := ⟨_, rfl, hA⟩
        refine lk_sg (σ' := lk_ms Wa V T) (by rw [hWa]) ?_
        clear hWa hA
        refine lk_iincN (a := 0) (m := 1) (L' := [(0, lk_vr 1 0), (1, lk_vi (nI (k))), (2, lk_vi (nI (i))), (3, lk_vi (nI (j))), (4, lk_vi (so)), (5, lk_vi (V 6 (k))), (6, lk_vi (V 6 (k + 1))), (7, lk_vi (V 4 (k))), (8, lk_vi (V 5 (k))), (9, lk_vi (nI (0 + 1))), (10, lk_vi (nI ((lk_qb B nf k).2 i)))]) dX9_weaves_318 rfl rfl (by decide +kernel) rfl ?_
        refine lk_cast (L' := [(0, lk_vr 1 0), (1, lk_vi (nI (k))), (2, lk_vi (nI (i))), (3, lk_vi (nI (j))), (4, lk_vi (so)), (5, lk_vi (V 6 (k))), (6, lk_vi (V 6 (k + 1))), (7, lk_vi (V 4 (k))), (8, lk_vi (V 5 (k))), (9, lk_vi 1), (10, lk_vi (nI ((lk_qb B nf k).2 i)))]) rfl rfl rfl ?_
        refine lk_goto (tgt := 133) dX9_weaves_321 (by decide) ?_
        refine lk_iload dX9_weaves_133 rfl ?_
        refine lk_iconst (v := 2) dX9_weaves_135 (by decide) ?_
        refine lk_icmp_geN (a := 1) (b := 2) (tgt := 324) dX9_weaves_136 (by decide) (by omega) (by omega) (fun hh10 => absurd hh10 (by decide)) (fun hh10 => ?_)
        refine lk_iload dX9_weaves_139 rfl ?_
        refine lk_if_ne (tgt := 160) dX9_weaves_141 (by decide) (fun hh11 => ?_) (fun hh11 => absurd hh11 (by decide))
        refine lk_iload_n dX9_weaves_160 rfl rfl ?_
        refine lk_bipush (v := 6) dX9_weaves_161 (by decide) ?_
        refine lk_aload_n dX9_weaves_163 rfl rfl ?_
        refine lk_getIv (v := (nI ((lk_qa B nf k).1))) (f := 19) dX9_weaves_164 rfl fX9_171 (by decide) (by decide) ((lk_rf (by decide)).trans (lk_lq_w fa hq).2.1) ?_
        refine lk_mmin dX9_weaves_167 lX9_177 (Nat.le_of_ble_eq_true rfl) ?_
        refine lk_eqtop (y := (nI (aa))) (by rw [haa]; exact lk_min6m (by omega)) ?_
        refine lk_icmp_neN (a := j) (b := aa) (tgt := 176) dX9_weaves_170 (by decide) (by omega) (by omega) (fun hh12 => ?_) (fun hh12 => ?_)
        ·
          refine lk_iload dX9_weaves_176 rfl ?_
          refine lk_if_ne (tgt := 190) dX9_weaves_178 (by decide) (fun hh13 => ?_) (fun hh13 => absurd hh13 (by decide))
          refine lk_aload_n dX9_weaves_190 rfl rfl ?_
          refine lk_getR (f := 21) dX9_weaves_191 rfl fX9_33 (by decide) (by decide) ?_
          refine lk_iload_n dX9_weaves_194 rfl rfl ?_
          refine lk_ialdN (f := 21) (i := j) dX9_weaves_195 rfl (by decide) rfl (by omega) (by decide) ?_
          refine lk_eqtop (y := (nI ((lk_qa B nf k).2 j))) ((lk_rf (by decide)).trans ((lk_lq_w fa hq).2.2.2 j (by omega))) ?_
          refine lk_istore (L' := [(0, lk_vr 1 0), (1, lk_vi (nI (k))), (2, lk_vi (nI (i))), (3, lk_vi (nI (j))), (4, lk_vi (so)), (5, lk_vi (V 6 (k))), (6, lk_vi (V 6 (k + 1))), (7, lk_vi (V 4 (k))), (8, lk_vi (V 5 (k))), (9, lk_vi 1), (10, lk_vi (nI ((lk_qa B nf k).2 j)))]) dX9_weaves_196 (by decide +kernel) rfl ?_
          have hql : ((lk_qa B nf k).2 j) < nf := lk_gat_lt B (nI (k + 1)) 0 nf j (show j < (lk_qa B nf k).1 by omega)
          refine lk_aload_n dX9_weaves_198 rfl rfl ?_
          refine lk_iload_n dX9_weaves_199 rfl rfl ?_
          refine lk_iload dX9_weaves_200 rfl ?_
          refine lk_if_ne (tgt := 209) dX9_weaves_202 (by decide) (fun hh14 => ?_) (fun hh14 => absurd hh14 (by decide))
          refine lk_iconst (v := 0) dX9_weaves_209 (by decide) ?_
          refine lk_aload_n dX9_weaves_210 rfl rfl ?_
          refine lk_getR (f := 0) dX9_weaves_211 rfl fX9_9 (by decide) (by decide) ?_
          refine lk_bipush (v := 66) dX9_weaves_214 (by decide) ?_
          refine lk_iload dX9_weaves_216 rfl ?_
          refine lk_iaddN (a := 66) (b := (lk_qa B nf k).2 j) dX9_weaves_218 ?_
          refine lk_ialdN (f := 0) (i := 66 + (lk_qa B nf k).2 j) dX9_weaves_219 rfl (by decide) rfl (by omega) (by decide) ?_
          refine lk_eqtop (y := (B 1 ((lk_qa B nf k).2 j))) ((lk_rB (by omega)).trans ((lk_bv_w fa hB) _ hql).2.1) ?_
          rcases hp2 : lk_pas V k false (B 1 ((lk_qa B nf k).2 j)) with V3 | q2
          ·
            have hnV3 := (lk_pas_ok hp2 (hV.2.2.2 k hk6) (hz _ hql).1 (hz _ hql).2).1
            refine lk_callV (o := 1) (as := [lk_vi (nI (k)), lk_vi 0, lk_vi (B 1 ((lk_qa B nf k).2 j))]) (S := []) dX9_weaves_220 rfl vX9_goes rfl lX9_140 rfl rfl (Nat.le_of_ble_eq_true rfl) (tX9_goes_dn_ok l X d Wa τ (k := (k)) (z := (B 1 ((lk_qa B nf k).2 j))) (V := V) (T := T) (n := n) (hV := hV) (hr := hr) (hk := hk) (W := V3) (h := hp2)) ?_
            refine lk_k3 ?_
            refine lk_cast (pc' := 223) (S' := [lk_vi 1]) rfl rfl rfl ?_
            refine lk_if_eq (tgt := 272) dX9_weaves_223 (by decide) (fun hh15 => absurd hh15 (by decide)) (fun hh15 => ?_)
            refine lk_aload_n dX9_weaves_226 rfl rfl ?_
            refine lk_getR (f := 27) dX9_weaves_227 rfl fX9_36 (by decide) (by decide) ?_
            refine lk_iload_n dX9_weaves_230 rfl rfl ?_
            refine lk_iload_n dX9_weaves_231 rfl rfl ?_
            refine lk_iaddN (a := i) (b := j) dX9_weaves_232 ?_
            refine lk_iload dX9_weaves_233 rfl ?_
            refine lk_iastN (f := 27) (i := i + j) (v := (nI ((lk_qa B nf k).2 j))) dX9_weaves_235 rfl (by decide) rfl (by omega) (by decide) ?_
            refine lk_sg (σ' := (lk_ms (lk_up (lk_up Wa 1 6 0 (V 6 (k + 1) - V3 6 (k + 1))) 1 27 (i + j) (nI ((lk_qa B nf k).2 j))) V3 T)) (lk_wf (by decide)) ?_
            refine lk_aload_n dX9_weaves_236 rfl rfl ?_
            refine lk_iload_n dX9_weaves_237 rfl rfl ?_
            refine lk_iload dX9_weaves_238 rfl ?_
            refine lk_if_ne (tgt := 249) dX9_weaves_240 (by decide) (fun hh16 => ?_) (fun hh16 => absurd hh16 (by decide))
            refine lk_iload_n dX9_weaves_249 rfl rfl ?_
            refine lk_iload dX9_weaves_250 rfl ?_
            refine lk_if_ne (tgt := 259) dX9_weaves_252 (by decide) (fun hh17 => ?_) (fun hh17 => absurd hh17 (by decide))
            refine lk_iload_n dX9_weaves_259 rfl rfl ?_
            refine lk_iconst (v := 1) dX9_weaves_260 (by decide) ?_
            refine lk_iaddN (a := j) (b := 1) dX9_weaves_261 ?_
            refine lk_iload dX9_weaves_262 rfl ?_
            refine lk_aload_n dX9_weaves_264 rfl rfl ?_
            refine lk_getIv (v := ((V 6 (k + 1) - V3 6 (k + 1)))) (f := 6) dX9_weaves_265 rfl fX9_137 (by decide) (by decide) ((lk_rf (by decide)).trans rfl) ?_
            refine lk_iadd dX9_weaves_268 ?_
            refine lk_callV (o := 1) (as := [lk_vi (nI (k)), lk_vi (nI (i)), lk_vi (nI (j + 1)), lk_vi ((so) + ((V 6 (k + 1) - V3 6 (k + 1))))]) (S := []) dX9_weaves_269 rfl vX9_weaves rfl lX9_188 rfl rfl (Nat.le_of_ble_eq_true rfl) (ihw (lk_up (lk_up Wa 1 6 0 (V 6 (k + 1) - V3 6 (k + 1))) 1 27 (i + j) (nI ((lk_qa B nf k).2 j))) V3 i (j + 1) (((so) + ((V 6 (k + 1) - V3 6 (k + 1))))) a1 (lk_rw row (i + j) (nI ((lk_qa B nf k).2 j))) (lk_pas_cok hp2 hk hV (hz _ hql).1 (hz _ hql).2) (lk_pas_rok hr hk6 hp2) (lk_bv_w (σ := Wa) (lk_fx_up (lk_fx_up (lk_fx_rf _ _) (by decide)) (by decide)) (lk_bv_w fa hB)) (lk_lq_w (σ := Wa) (lk_fx_up (lk_fx_up (lk_fx_rf _ _) (by decide)) (by decide)) (lk_lq_w fa hq)) (by omega) (by omega) (by omega) ga ba ra (fun x hx => by
                  simp only [lk_up, lk_rw]
                  by_cases c : x = i + j
                  · subst c; simp
                  · rw [if_neg (by simp [c]), if_neg c]
                    exact oa x (by omega))) ?_
            refine lk_k4 (fun W2 hW2 => ?_)
            refine lk_cast (pc' := 272) (S' := []) rfl rfl rfl ?_
            refine lk_sg (σ' := (lk_ms W2 V3 T)) rfl ?_
            refine lk_aload_n dX9_weaves_272 rfl rfl ?_
            refine lk_getR (f := 0) dX9_weaves_273 rfl fX9_9 (by decide) (by decide) ?_
            refine lk_bipush (v := 24) dX9_weaves_276 (by decide) ?_
            refine lk_iload_n dX9_weaves_278 rfl rfl ?_
            refine lk_iaddN (a := 24) (b := k) dX9_weaves_279 ?_
            refine lk_iload dX9_weaves_280 rfl ?_
            refine lk_iastN (f := 0) (i := 24 + k) (v := (V 6 (k))) dX9_weaves_282 rfl (by decide) rfl (by omega) (by decide) ?_
            refine lk_sg (σ' := (lk_ms W2 (lk_ou V3 6 (k) (V 6 (k))) T)) (lk_w6 (by omega) (by omega)) ?_
            refine lk_aload_n dX9_weaves_283 rfl rfl ?_
            refine lk_getR (f := 0) dX9_weaves_284 rfl fX9_9 (by decide) (by decide) ?_
            refine lk_bipush (v := 24) dX9_weaves_287 (by decide) ?_
            refine lk_iload_n dX9_weaves_289 rfl rfl ?_
            refine lk_iaddN (a := 24) (b := k) dX9_weaves_290 ?_
            refine lk_iconst (v := 1) dX9_weaves_291 (by decide) ?_
            refine lk_iaddN (a := 24 + k) (b := 1) dX9_weaves_292 ?_
            refine lk_iload dX9_weaves_293 rfl ?_
            refine lk_iastN (f := 0) (i := 24 + k + 1) (v := (V 6 (k + 1))) dX9_weaves_295 rfl (by decide) rfl (by omega) (by decide) ?_
            refine lk_sg (σ' := (lk_ms W2 (lk_ou (lk_ou V3 6 (k) (V 6 (k))) 6 (k + 1) (V 6 (k + 1))) T)) (lk_w6 (by omega) (by omega)) ?_
            refine lk_aload_n dX9_weaves_296 rfl rfl ?_
            refine lk_getR (f := 0) dX9_weaves_297 rfl fX9_9 (by decide) (by decide) ?_
            refine lk_bipush (v := 12) dX9_weaves_300 (by decide) ?_
            refine lk_iload_n dX9_weaves_302 rfl rfl ?_
            refine lk_iaddN (a := 12) (b := k) dX9_weaves_303 ?_
            refine lk_iload dX9_weaves_304 rfl ?_
            refine lk_iastN (f := 0) (i := 12 + k) (v := (V 4 (k))) dX9_weaves_306 rfl (by decide) rfl (by omega) (by decide) ?_
            refine lk_sg (σ' := (lk_ms W2 (lk_ou (lk_ou (lk_ou V3 6 (k) (V 6 (k))) 6 (k + 1) (V 6 (k + 1))) 4 (k) (V 4 (k))) T)) (lk_w4 (by omega) (by omega)) ?_
            refine lk_aload_n dX9_weaves_307 rfl rfl ?_
            refine lk_getR (f := 0) dX9_weaves_308 rfl fX9_9 (by decide) (by decide) ?_
            refine lk_bipush (v := 18) dX9_weaves_311 (by decide) ?_
            refine lk_iload_n dX9_weaves_313 rfl rfl ?_
            refine lk_iaddN (a := 18) (b := k) dX9_weaves_314 ?_
            refine lk_iload dX9_weaves_315 rfl ?_
            refine lk_iastN (f := 0) (i := 18 + k) (v := (V 5 (k))) dX9_weaves_317 rfl (by decide) rfl (by omega) (by decide) ?_
            refine lk_sg (σ' := (lk_ms W2 (lk_ou (lk_ou (lk_ou (lk_ou V3 6 (k) (V 6 (k))) 6 (k + 1) (V 6 (k + 1))) 4 (k) (V 4 (k))) 5 (k) (V 5 (k))) T)) (lk_w5 (by omega) (by omega)) ?_
            refine lk_sg (σ' := lk_ms W2 V T) (by rw [lk_near_back hnV3]) ?_
            have hE : lk_wvm (B 1) (lk_qb B nf k).2 (lk_qa B nf k).2 k bb aa (r + 1) i j so V a row = lk_wvm (B 1) (lk_qb B nf k).2 (lk_qa B nf k).2 k bb aa r i (j + 1) (so + (V 6 (k + 1) - V3 6 (k + 1))) V3 a1 (lk_rw row (i + j) (nI ((lk_qa B nf k).2 j))) := by
              rw [lk_wvm, ← ha1]
              show (if j < aa then _ else a1) = _
              rw [if_pos (show j < aa by omega), hp2] <;> rfl
            have hW9 : lk_wvP σ W2 (i + j) (lk_wvm (B 1) (lk_qb B nf k).2 (lk_qa B nf k).2 k bb aa (r + 1) i j so V a row) := ⟨(lk_fx_tr fa (lk_fx_tr (lk_fx_up (lk_fx_up (lk_fx_rf _ _) (by decide)) (by decide)) hW2.1)), fun x hx => ((hW2.2.1 x (by omega)).trans (by simp only [lk_up]; rw [if_neg (by simp; omega), if_neg (by simp)]; exact oa x hx)).trans (hro x hx).symm, by rw [hE]; exact hW2.2.2.1, by rw [hE]; exact hW2.2.2.2.1, fun x => by rw [hE]; exact hW2.2.2.2.2 x⟩
            obtain ⟨Wb, hWb⟩ : ∃ w : lk_N, w = W2 := ⟨_, rfl⟩
            refine lk_sg (σ' := lk_ms Wb V T) (by rw [hWb]) ?_
            rw [← hWb] at hW9
            refine lk_iincN (a := 1) (m := 1) (L' := [(0, lk_vr 1 0), (1, lk_vi (nI (k))), (2, lk_vi (nI (i))), (3, lk_vi (nI (j))), (4, lk_vi (so)), (5, lk_vi (V 6 (k))), (6, lk_vi (V 6 (k + 1))), (7, lk_vi (V 4 (k))), (8, lk_vi (V 5 (k))), (9, lk_vi (nI (1 + 1))), (10, lk_vi (nI ((lk_qa B nf k).2 j)))]) dX9_weaves_318 rfl rfl (by decide +kernel) rfl ?_
            refine lk_cast (L' := [(0, lk_vr 1 0), (1, lk_vi (nI (k))), (2, lk_vi (nI (i))), (3, lk_vi (nI (j))), (4, lk_vi (so)), (5, lk_vi (V 6 (k))), (6, lk_vi (V 6 (k + 1))), (7, lk_vi (V 4 (k))), (8, lk_vi (V 5 (k))), (9, lk_vi 2), (10, lk_vi (nI ((lk_qa B nf k).2 j)))]) rfl rfl rfl ?_
            refine lk_goto (tgt := 133) dX9_weaves_321 (by decide) ?_
            refine lk_iload dX9_weaves_133 rfl ?_
            refine lk_iconst (v := 2) dX9_weaves_135 (by decide) ?_
            refine lk_icmp_geN (a := 2) (b := 2) (tgt := 324) dX9_weaves_136 (by decide) (by omega) (by omega) (fun hh18 => ?_) (fun hh18 => absurd hh18 (by decide))
            refine lk_vret dX9_weaves_324 rfl ?_
            rw [hQ]
            exact ⟨rfl, rfl, Wb, rfl, hW9⟩
          ·
            refine lk_callV (o := 1) (as := [lk_vi (nI (k)), lk_vi 0, lk_vi (B 1 ((lk_qa B nf k).2 j))]) (S := []) dX9_weaves_220 rfl vX9_goes rfl lX9_140 rfl rfl (Nat.le_of_ble_eq_true rfl) (tX9_goes_dn_no l X d Wa τ (k := (k)) (z := (B 1 ((lk_qa B nf k).2 j))) (V := V) (T := T) (n := n) (hV := hV) (hr := hr) (hk := hk) (q := q2) (h := hp2)) ?_
            refine lk_k5 (fun s2 => ?_)
            refine lk_cast (pc' := 223) (S' := [lk_vi 0]) rfl rfl rfl ?_
            refine lk_sg (σ' := (lk_ms (lk_up (lk_bar Wa q2) 1 6 0 s2) V T)) rfl ?_
            refine lk_if_eq (tgt := 272) dX9_weaves_223 (by decide) (fun hh19 => ?_) (fun hh19 => absurd hh19 (by decide))
            refine lk_aload_n dX9_weaves_272 rfl rfl ?_
            refine lk_getR (f := 0) dX9_weaves_273 rfl fX9_9 (by decide) (by decide) ?_
            refine lk_bipush (v := 24) dX9_weaves_276 (by decide) ?_
            refine lk_iload_n dX9_weaves_278 rfl rfl ?_
            refine lk_iaddN (a := 24) (b := k) dX9_weaves_279 ?_
            refine lk_iload dX9_weaves_280 rfl ?_
            refine lk_iastN (f := 0) (i := 24 + k) (v := (V 6 (k))) dX9_weaves_282 rfl (by decide) rfl (by omega) (by decide) ?_
            refine lk_sg (σ' := (lk_ms (lk_up (lk_bar Wa q2) 1 6 0 s2) (lk_ou V 6 (k) (V 6 (k))) T)) (lk_w6 (by omega) (by omega)) ?_
            refine lk_aload_n dX9_weaves_283 rfl rfl ?_
            refine lk_getR (f := 0) dX9_weaves_284 rfl fX9_9 (by decide) (by decide) ?_
            refine lk_bipush (v := 24) dX9_weaves_287 (by decide) ?_
            refine lk_iload_n dX9_weaves_289 rfl rfl ?_
            refine lk_iaddN (a := 24) (b := k) dX9_weaves_290 ?_
            refine lk_iconst (v := 1) dX9_weaves_291 (by decide) ?_
            refine lk_iaddN (a := 24 + k) (b := 1) dX9_weaves_292 ?_
            refine lk_iload dX9_weaves_293 rfl ?_
            refine lk_iastN (f := 0) (i := 24 + k + 1) (v := (V 6 (k + 1))) dX9_weaves_295 rfl (by decide) rfl (by omega) (by decide) ?_
            refine lk_sg (σ' := (lk_ms (lk_up (lk_bar Wa q2) 1 6 0 s2) (lk_ou (lk_ou V 6 (k) (V 6 (k))) 6 (k + 1) (V 6 (k + 1))) T)) (lk_w6 (by omega) (by omega)) ?_
            refine lk_aload_n dX9_weaves_296 rfl rfl ?_
            refine lk_getR (f := 0) dX9_weaves_297 rfl fX9_9 (by decide) (by decide) ?_
            refine lk_bipush (v := 12) dX9_weaves_300 (by decide) ?_
            refine lk_iload_n dX9_weaves_302 rfl rfl ?_
            refine lk_iaddN (a := 12) (b := k) dX9_weaves_303 ?_
            refine lk_iload dX9_weaves_304 rfl ?_
            refine lk_iastN (f := 0) (i := 12 + k) (v := (V 4 (k))) dX9_weaves_306 rfl (by decide) rfl (by omega) (by decide) ?_
            refine lk_sg (σ' := (lk_ms (lk_up (lk_bar Wa q2) 1 6 0 s2) (lk_ou (lk_ou (lk_ou V 6 (k) (V 6 (k))) 6 (k + 1) (V 6 (k + 1))) 4 (k) (V 4 (k))) T)) (lk_w4 (by omega) (by omega)) ?_
            refine lk_aload_n dX9_weaves_307 rfl rfl ?_
            refine lk_getR (f := 0) dX9_weaves_308 rfl fX9_9 (by decide) (by decide) ?_
            refine lk_bipush (v := 18) dX9_weaves_311 (by decide) ?_
            refine lk_iload_n dX9_weaves_313 rfl rfl ?_
            refine lk_iaddN (a := 18) (b := k) dX9_weaves_314 ?_
            refine lk_iload dX9_weaves_315 rfl ?_
            refine lk_iastN (f := 0) (i := 18 + k) (v := (V 5 (k))) dX9_weaves_317 rfl (by decide) rfl (by omega) (by decide) ?_
            refine lk_sg (σ' := (lk_ms (lk_up (lk_bar Wa q2) 1 6 0 s2) (lk_ou (lk_ou (lk_ou (lk_ou V 6 (k) (V 6 (k))) 6 (k + 1) (V 6 (k + 1))) 4 (k) (V 4 (k))) 5 (k) (V 5 (k))) T)) (lk_w5 (by omega) (by omega)) ?_
            refine lk_sg (σ' := lk_ms (lk_up (lk_bar Wa q2) 1 6 0 s2) V T) (by rw [lk_near_back (lk_near_rf V k)]) ?_
            have hE : lk_wvm (B 1) (lk_qb B nf k).2 (lk_qa B nf k).2 k bb aa (r + 1) i j so V a row = a1 := by
              rw [lk_wvm, ← ha1]
              show (if j < aa then _ else a1) = _
              rw [if_pos (show j < aa by omega), hp2] <;> rfl
            have hW9 : lk_wvP σ (lk_up (lk_bar Wa q2) 1 6 0 s2) (i + j) (lk_wvm (B 1) (lk_qb B nf k).2 (lk_qa B nf k).2 k bb aa (r + 1) i j so V a row) := ⟨(lk_fx_up (lk_fx_bar fa (by decide) (by decide) (by decide)) (by decide)), fun x hx => (oa x hx).trans (hro x hx).symm, by rw [hE]; exact ga, by rw [hE]; exact ba, fun x => by rw [hE]; exact ra x⟩
            obtain ⟨Wb, hWb⟩ : ∃ w : lk_N, w = (lk_up (lk_bar Wa q2) 1 6 0 s2) := ⟨_, rfl⟩
            refine lk_sg (σ' := lk_ms Wb V T) (by rw [hWb]) ?_
            rw [← hWb] at hW9
            refine lk_iincN (a := 1) (m := 1) (L' := [(0, lk_vr 1 0), (1, lk_vi (nI (k))), (2, lk_vi (nI (i))), (3, lk_vi (nI (j))), (4, lk_vi (so)), (5, lk_vi (V 6 (k))), (6, lk_vi (V 6 (k + 1))), (7, lk_vi (V 4 (k))), (8, lk_vi (V 5 (k))), (9, lk_vi (nI (1 + 1))), (10, lk_vi (nI ((lk_qa B nf k).2 j)))]) dX9_weaves_318 rfl rfl (by decide +kernel) rfl ?_
            refine lk_cast (L' := [(0, lk_vr 1 0), (1, lk_vi (nI (k))), (2, lk_vi (nI (i))), (3, lk_vi (nI (j))), (4, lk_vi (so)), (5, lk_vi (V 6 (k))), (6, lk_vi (V 6 (k + 1))), (7, lk_vi (V 4 (k))), (8, lk_vi (V 5 (k))), (9, lk_vi 2), (10, lk_vi (nI ((lk_qa B nf k).2 j)))]) rfl rfl rfl ?_
            refine lk_goto (tgt := 133) dX9_weaves_321 (by decide) ?_
            refine lk_iload dX9_weaves_133 rfl ?_
            refine lk_iconst (v := 2) dX9_weaves_135 (by decide) ?_
            refine lk_icmp_geN (a := 2) (b := 2) (tgt := 324) dX9_weaves_136 (by decide) (by omega) (by omega) (fun hh20 => ?_) (fun hh20 => absurd hh20 (by decide))
            refine lk_vret dX9_weaves_324 rfl ?_
            rw [hQ]
            exact ⟨rfl, rfl, Wb, rfl, hW9⟩
        ·
          refine lk_goto (tgt := 318) dX9_weaves_173 (by decide) ?_
          have hE : lk_wvm (B 1) (lk_qb B nf k).2 (lk_qa B nf k).2 k bb aa (r + 1) i j so V a row = a1 := by
            rw [lk_wvm, ← ha1]
            show (if j < aa then _ else a1) = _
            rw [if_neg (show ¬ j < aa by omega)] <;> rfl
          have hW9 : lk_wvP σ Wa (i + j) (lk_wvm (B 1) (lk_qb B nf k).2 (lk_qa B nf k).2 k bb aa (r + 1) i j so V a row) := ⟨fa, fun x hx => (oa x hx).trans (hro x hx).symm, by rw [hE]; exact ga, by rw [hE]; exact ba, fun x => by rw [hE]; exact ra x⟩
          obtain ⟨Wb, hWb⟩ : ∃ w : lk_N, w = Wa := ⟨_, rfl⟩
          refine lk_sg (σ' := lk_ms Wb V T) (by rw [hWb]) ?_
          rw [← hWb] at hW9
          refine lk_iincN (a := 1) (m := 1) (L' := [(0, lk_vr 1 0), (1, lk_vi (nI (k))), (2, lk_vi (nI (i))), (3, lk_vi (nI (j))), (4, lk_vi (so)), (5, lk_vi (V 6 (k))), (6, lk_vi (V 6 (k + 1))), (7, lk_vi (V 4 (k))), (8, lk_vi (V 5 (k))), (9, lk_vi (nI (1 + 1))), (10, lk_vi (nI ((lk_qb B nf k).2 i)))]) dX9_weaves_318 rfl rfl (by decide +kernel) rfl ?_
          refine lk_cast (L' := [(0, lk_vr 1 0), (1, lk_vi (nI (k))), (2, lk_vi (nI (i))), (3, lk_vi (nI (j))), (4, lk_vi (so)), (5, lk_vi (V 6 (k))), (6, lk_vi (V 6 (k + 1))), (7, lk_vi (V 4 (k))), (8, lk_vi (V 5 (k))), (9, lk_vi 2), (10, lk_vi (nI ((lk_qb B nf k).2 i)))]) rfl rfl rfl ?_
          refine lk_goto (tgt := 133) dX9_weaves_321 (by decide) ?_
          refine lk_iload dX9_weaves_133 rfl ?_
          refine lk_iconst (v := 2) dX9_weaves_135 (by decide) ?_
          refine lk_icmp_geN (a := 2) (b := 2) (tgt := 324) dX9_weaves_136 (by decide) (by omega) (by omega) (fun hh21 => ?_) (fun hh21 => absurd hh21 (by decide))
          refine lk_vret dX9_weaves_324 rfl ?_
          rw [hQ]
          exact ⟨rfl, rfl, Wb, rfl, hW9⟩
      ·
        refine lk_callV (o := 1) (as := [lk_vi (nI (k)), lk_vi 1, lk_vi (B 1 ((lk_qb B nf k).2 i))]) (S := []) dX9_weaves_220 rfl vX9_goes rfl lX9_140 rfl rfl (Nat.le_of_ble_eq_true rfl) (tX9_goes_up_no l X d σ τ (k := (k)) (z := (B 1 ((lk_qb B nf k).2 i))) (V := V) (T := T) (n := n) (hV := hV) (hr := hr) (hk := hk) (q := q) (h := hp)) ?_
        refine lk_k5 (fun s1 => ?_)
        refine lk_cast (pc' := 223) (S' := [lk_vi 0]) rfl rfl rfl ?_
        refine lk_sg (σ' := (lk_ms (lk_up (lk_bar σ q) 1 6 0 s1) V T)) rfl ?_
        refine lk_if_eq (tgt := 272) dX9_weaves_223 (by decide) (fun hh22 => ?_) (fun hh22 => absurd hh22 (by decide))
        refine lk_aload_n dX9_weaves_272 rfl rfl ?_
        refine lk_getR (f := 0) dX9_weaves_273 rfl fX9_9 (by decide) (by decide) ?_
        refine lk_bipush (v := 24) dX9_weaves_276 (by decide) ?_
        refine lk_iload_n dX9_weaves_278 rfl rfl ?_
        refine lk_iaddN (a := 24) (b := k) dX9_weaves_279 ?_
        refine lk_iload dX9_weaves_280 rfl ?_
        refine lk_iastN (f := 0) (i := 24 + k) (v := (V 6 (k))) dX9_weaves_282 rfl (by decide) rfl (by omega) (by decide) ?_
        refine lk_sg (σ' := (lk_ms (lk_up (lk_bar σ q) 1 6 0 s1) (lk_ou V 6 (k) (V 6 (k))) T)) (lk_w6 (by omega) (by omega)) ?_
        refine lk_aload_n dX9_weaves_283 rfl rfl ?_
        refine lk_getR (f := 0) dX9_weaves_284 rfl fX9_9 (by decide) (by decide) ?_
        refine lk_bipush (v := 24) dX9_weaves_287 (by decide) ?_
        refine lk_iload_n dX9_weaves_289 rfl rfl ?_
        refine lk_iaddN (a := 24) (b := k) dX9_weaves_290 ?_
        refine lk_iconst (v := 1) dX9_weaves_291 (by decide) ?_
        refine lk_iaddN (a := 24 + k) (b := 1) dX9_weaves_292 ?_
        refine lk_iload dX9_weaves_293 rfl ?_
        refine lk_iastN (f := 0) (i := 24 + k + 1) (v := (V 6 (k + 1))) dX9_weaves_295 rfl (by decide) rfl (by omega) (by decide) ?_
        refine lk_sg (σ' := (lk_ms (lk_up (lk_bar σ q) 1 6 0 s1) (lk_ou (lk_ou V 6 (k) (V 6 (k))) 6 (k + 1) (V 6 (k + 1))) T)) (lk_w6 (by omega) (by omega)) ?_
        refine lk_aload_n dX9_weaves_296 rfl rfl ?_
        refine lk_getR (f := 0) dX9_weaves_297 rfl fX9_9 (by decide) (by decide) ?_
        refine lk_bipush (v := 12) dX9_weaves_300 (by decide) ?_
        refine lk_iload_n dX9_weaves_302 rfl rfl ?_
        refine lk_iaddN (a := 12) (b := k) dX9_weaves_303 ?_
        refine lk_iload dX9_weaves_304 rfl ?_
        refine lk_iastN (f := 0) (i := 12 + k) (v := (V 4 (k))) dX9_weaves_306 rfl (by decide) rfl (by omega) (by decide) ?_
        refine lk_sg (σ' := (lk_ms (lk_up (lk_bar σ q) 1 6 0 s1) (lk_ou (lk_ou (lk_ou V 6 (k) (V 6 (k))) 6 (k + 1) (V 6 (k + 1))) 4 (k) (V 4 (k))) T)) (lk_w4 (by omega) (by omega)) ?_
        refine lk_aload_n dX9_weaves_307 rfl rfl ?_
        refine lk_getR (f := 0) dX9_weaves_308 rfl fX9_9 (by decide) (by decide) ?_
        refine lk_bipush (v := 18) dX9_weaves_311 (by decide) ?_
        refine lk_iload_n dX9_weaves_313 rfl rfl ?_
        refine lk_iaddN (a := 18) (b := k) dX9_weaves_314 ?_
        refine lk_iload dX9_weaves_315 rfl ?_
        refine lk_iastN (f := 0) (i := 18 + k) (v := (V 5 (k))) dX9_weaves_317 rfl (by decide) rfl (by omega) (by decide) ?_
        refine lk_sg (σ' := (lk_ms (lk_up (lk_bar σ q) 1 6 0 s1) (lk_ou (lk_ou (lk_ou (lk_ou V 6 (k) (V 6 (k))) 6 (k + 1) (V 6 (k + 1))) 4 (k) (V 4 (k))) 5 (k) (V 5 (k))) T)) (lk_w5 (by omega) (by omega)) ?_
        refine lk_sg (σ' := lk_ms (lk_up (lk_bar σ q) 1 6 0 s1) V T) (by rw [lk_near_back (lk_near_rf V k)]) ?_
        obtain ⟨a1, ha1⟩ : ∃ a1 : lk_a, a1 = (if i < bb then lk_mt (lk_pas V k true (B 1 ((lk_qb B nf k).2 i))) (fun V' => lk_wvm (B 1) (lk_qb B nf k).2 (lk_qa B nf k).2 k bb aa r (i + 1) j (so + (V 6 (k + 1) - V' 6 (k + 1))) V' a (lk_rw row (i + j) (nI ((lk_qb B nf k).2 i)))) a else a) := ⟨_, rfl⟩
        have ha2 := ha1
        rw [if_pos (show i < bb by omega), hp] at ha2
        have hA : lk_fx [6, 7, 8, 9, 25, 26, 27, 28] σ (lk_up (lk_bar σ q) 1 6 0 s1) ∧ (∀ x, x < i + j → (lk_up (lk_bar σ q) 1 6 0 s1) 1 27 x = row x) ∧ (lk_up (lk_bar σ q) 1 6 0 s1) 1 25 0 = nI a1.1 ∧ (lk_up (lk_bar σ q) 1 6 0 s1) 1 26 0 = a1.2.1 ∧ ∀ x, (lk_up (lk_bar σ q) 1 6 0 s1) 1 28 x = a1.2.2 x := ⟨(lk_fx_up (lk_fx_bar (lk_fx_rf _ _) (by decide) (by decide) (by decide)) (by decide)), fun x hx => hro x hx, by rw [ha2]; exact hg, by rw [ha2]; exact hb, fun x => by rw [ha2]; exact hrw x⟩
        obtain ⟨Wa, hWa, fa, oa, ga, ba, ra⟩ : ∃ w : lk_N, w = (lk_up (lk_bar σ q) 1 6 0 s1) ∧ (lk_fx [6, 7, 8, 9, 25, 26, 27, 28] σ w ∧ (∀ x, x < i + j → w 1 27 x = row x) ∧ w 1 25 0 = nI a1.1 ∧ w 1 26 0 = a1.2.1 ∧ ∀ x, w 1 28 x = a1.2.2 x) := ⟨_, rfl, hA⟩
        refine lk_sg (σ' := lk_ms Wa V T) (by rw [hWa]) ?_
        clear hWa hA
        refine lk_iincN (a := 0) (m := 1) (L' := [(0, lk_vr 1 0), (1, lk_vi (nI (k))), (2, lk_vi (nI (i))), (3, lk_vi (nI (j))), (4, lk_vi (so)), (5, lk_vi (V 6 (k))), (6, lk_vi (V 6 (k + 1))), (7, lk_vi (V 4 (k))), (8, lk_vi (V 5 (k))), (9, lk_vi (nI (0 + 1))), (10, lk_vi (nI ((lk_qb B nf k).2 i)))]) dX9_weaves_318 rfl rfl (by decide +kernel) rfl ?_
        refine lk_cast (L' := [(0, lk_vr 1 0), (1, lk_vi (nI (k))), (2, lk_vi (nI (i))), (3, lk_vi (nI (j))), (4, lk_vi (so)), (5, lk_vi (V 6 (k))), (6, lk_vi (V 6 (k + 1))), (7, lk_vi (V 4 (k))), (8, lk_vi (V 5 (k))), (9, lk_vi 1), (10, lk_vi (nI ((lk_qb B nf k).2 i)))]) rfl rfl rfl ?_
        refine lk_goto (tgt := 133) dX9_weaves_321 (by decide) ?_
        refine lk_iload dX9_weaves_133 rfl ?_
        refine lk_iconst (v := 2) dX9_weaves_135 (by decide) ?_
        refine lk_icmp_geN (a := 1) (b := 2) (tgt := 324) dX9_weaves_136 (by decide) (by omega) (by omega) (fun hh23 => absurd hh23 (by decide)) (fun hh23 => ?_)
        refine lk_iload dX9_weaves_139 rfl ?_
        refine lk_if_ne (tgt := 160) dX9_weaves_141 (by decide) (fun hh24 => ?_) (fun hh24 => absurd hh24 (by decide))
        refine lk_iload_n dX9_weaves_160 rfl rfl ?_
        refine lk_bipush (v := 6) dX9_weaves_161 (by decide) ?_
        refine lk_aload_n dX9_weaves_163 rfl rfl ?_
        refine lk_getIv (v := (nI ((lk_qa B nf k).1))) (f := 19) dX9_weaves_164 rfl fX9_171 (by decide) (by decide) ((lk_rf (by decide)).trans (lk_lq_w fa hq).2.1) ?_
        refine lk_mmin dX9_weaves_167 lX9_177 (Nat.le_of_ble_eq_true rfl) ?_
        refine lk_eqtop (y := (nI (aa))) (by rw [haa]; exact lk_min6m (by omega)) ?_
        refine lk_icmp_neN (a := j) (b := aa) (tgt := 176) dX9_weaves_170 (by decide) (by omega) (by omega) (fun hh25 => ?_) (fun hh25 => ?_)
        ·
          refine lk_iload dX9_weaves_176 rfl ?_
          refine lk_if_ne (tgt := 190) dX9_weaves_178 (by decide) (fun hh26 => ?_) (fun hh26 => absurd hh26 (by decide))
          refine lk_aload_n dX9_weaves_190 rfl rfl ?_
          refine lk_getR (f := 21) dX9_weaves_191 rfl fX9_33 (by decide) (by decide) ?_
          refine lk_iload_n dX9_weaves_194 rfl rfl ?_
          refine lk_ialdN (f := 21) (i := j) dX9_weaves_195 rfl (by decide) rfl (by omega) (by decide) ?_
          refine lk_eqtop (y := (nI ((lk_qa B nf k).2 j))) ((lk_rf (by decide)).trans ((lk_lq_w fa hq).2.2.2 j (by omega))) ?_
          refine lk_istore (L' := [(0, lk_vr 1 0), (1, lk_vi (nI (k))), (2, lk_vi (nI (i))), (3, lk_vi (nI (j))), (4, lk_vi (so)), (5, lk_vi (V 6 (k))), (6, lk_vi (V 6 (k + 1))), (7, lk_vi (V 4 (k))), (8, lk_vi (V 5 (k))), (9, lk_vi 1), (10, lk_vi (nI ((lk_qa B nf k).2 j)))]) dX9_weaves_196 (by decide +kernel) rfl ?_
          have hql : ((lk_qa B nf k).2 j) < nf := lk_gat_lt B (nI (k + 1)) 0 nf j (show j < (lk_qa B nf k).1 by omega)
          refine lk_aload_n dX9_weaves_198 rfl rfl ?_
          refine lk_iload_n dX9_weaves_199 rfl rfl ?_
          refine lk_iload dX9_weaves_200 rfl ?_
          refine lk_if_ne (tgt := 209) dX9_weaves_202 (by decide) (fun hh27 => ?_) (fun hh27 => absurd hh27 (by decide))
          refine lk_iconst (v := 0) dX9_weaves_209 (by decide) ?_
          refine lk_aload_n dX9_weaves_210 rfl rfl ?_
          refine lk_getR (f := 0) dX9_weaves_211 rfl fX9_9 (by decide) (by decide) ?_
          refine lk_bipush (v := 66) dX9_weaves_214 (by decide) ?_
          refine lk_iload dX9_weaves_216 rfl ?_
          refine lk_iaddN (a := 66) (b := (lk_qa B nf k).2 j) dX9_weaves_218 ?_
          refine lk_ialdN (f := 0) (i := 66 + (lk_qa B nf k).2 j) dX9_weaves_219 rfl (by decide) rfl (by omega) (by decide) ?_
          refine lk_eqtop (y := (B 1 ((lk_qa B nf k).2 j))) ((lk_rB (by omega)).trans ((lk_bv_w fa hB) _ hql).2.1) ?_
          rcases hp2 : lk_pas V k false (B 1 ((lk_qa B nf k).2 j)) with V3 | q2
          ·
            have hnV3 := (lk_pas_ok hp2 (hV.2.2.2 k hk6) (hz _ hql).1 (hz _ hql).2).1
            refine lk_callV (o := 1) (as := [lk_vi (nI (k)), lk_vi 0, lk_vi (B 1 ((lk_qa B nf k).2 j))]) (S := []) dX9_weaves_220 rfl vX9_goes rfl lX9_140 rfl rfl (Nat.le_of_ble_eq_true rfl) (tX9_goes_dn_ok l X d Wa τ (k := (k)) (z := (B 1 ((lk_qa B nf k).2 j))) (V := V) (T := T) (n := n) (hV := hV) (hr := hr) (hk := hk) (W := V3) (h := hp2)) ?_
            refine lk_k3 ?_
            refine lk_cast (pc' := 223) (S' := [lk_vi 1]) rfl rfl rfl ?_
            refine lk_if_eq (tgt := 272) dX9_weaves_223 (by decide) (fun hh28 => absurd hh28 (by decide)) (fun hh28 => ?_)
            refine lk_aload_n dX9_weaves_226 rfl rfl ?_
            refine lk_getR (f := 27) dX9_weaves_227 rfl fX9_36 (by decide) (by decide) ?_
            refine lk_iload_n dX9_weaves_230 rfl rfl ?_
            refine lk_iload_n dX9_weaves_231 rfl rfl ?_
            refine lk_iaddN (a := i) (b := j) dX9_weaves_232 ?_
            refine lk_iload dX9_weaves_233 rfl ?_
            refine lk_iastN (f := 27) (i := i + j) (v := (nI ((lk_qa B nf k).2 j))) dX9_weaves_235 rfl (by decide) rfl (by omega) (by decide) ?_
            refine lk_sg (σ' := (lk_ms (lk_up (lk_up Wa 1 6 0 (V 6 (k + 1) - V3 6 (k + 1))) 1 27 (i + j) (nI ((lk_qa B nf k).2 j))) V3 T)) (lk_wf (by decide)) ?_
            refine lk_aload_n dX9_weaves_236 rfl rfl ?_
            refine lk_iload_n dX9_weaves_237 rfl rfl ?_
            refine lk_iload dX9_weaves_238 rfl ?_
            refine lk_if_ne (tgt := 249) dX9_weaves_240 (by decide) (fun hh29 => ?_) (fun hh29 => absurd hh29 (by decide))
            refine lk_iload_n dX9_weaves_249 rfl rfl ?_
            refine lk_iload dX9_weaves_250 rfl ?_
            refine lk_if_ne (tgt := 259) dX9_weaves_252 (by decide) (fun hh30 => ?_) (fun hh30 => absurd hh30 (by decide))
            refine lk_iload_n dX9_weaves_259 rfl rfl ?_
            refine lk_iconst (v := 1) dX9_weaves_260 (by decide) ?_
            refine lk_iaddN (a := j) (b := 1) dX9_weaves_261 ?_
            refine lk_iload dX9_weaves_262 rfl ?_
            refine lk_aload_n dX9_weaves_264 rfl rfl ?_
            refine lk_getIv (v := ((V 6 (k + 1) - V3 6 (k + 1)))) (f := 6) dX9_weaves_265 rfl fX9_137 (by decide) (by decide) ((lk_rf (by decide)).trans rfl) ?_
            refine lk_iadd dX9_weaves_268 ?_
            refine lk_callV (o := 1) (as := [lk_vi (nI (k)), lk_vi (nI (i)), lk_vi (nI (j + 1)), lk_vi ((so) + ((V 6 (k + 1) - V3 6 (k + 1))))]) (S := []) dX9_weaves_269 rfl vX9_weaves rfl lX9_188 rfl rfl (Nat.le_of_ble_eq_true rfl) (ihw (lk_up (lk_up Wa 1 6 0 (V 6 (k + 1) - V3 6 (k + 1))) 1 27 (i + j) (nI ((lk_qa B nf k).2 j))) V3 i (j + 1) (((so) + ((V 6 (k + 1) - V3 6 (k + 1))))) a1 (lk_rw row (i + j) (nI ((lk_qa B nf k).2 j))) (lk_pas_cok hp2 hk hV (hz _ hql).1 (hz _ hql).2) (lk_pas_rok hr hk6 hp2) (lk_bv_w (σ := Wa) (lk_fx_up (lk_fx_up (lk_fx_rf _ _) (by decide)) (by decide)) (lk_bv_w fa hB)) (lk_lq_w (σ := Wa) (lk_fx_up (lk_fx_up (lk_fx_rf _ _) (by decide)) (by decide)) (lk_lq_w fa hq)) (by omega) (by omega) (by omega) ga ba ra (fun x hx => by
                  simp only [lk_up, lk_rw]
                  by_cases c : x = i + j
                  · subst c; simp
                  · rw [if_neg (by simp [c]), if_neg c]
                    exact oa x (by omega))) ?_
            refine lk_k4 (fun W2 hW2 => ?_)
            refine lk_cast (pc' := 272) (S' := []) rfl rfl rfl ?_
            refine lk_sg (σ' := (lk_ms W2 V3 T)) rfl ?_
            refine lk_aload_n dX9_weaves_272 rfl rfl ?_
            refine lk_getR (f := 0) dX9_weaves_273 rfl fX9_9 (by decide) (by decide) ?_
            refine lk_bipush (v := 24) dX9_weaves_276 (by decide) ?_
            refine lk_iload_n dX9_weaves_278 rfl rfl ?_
            refine lk_iaddN (a := 24) (b := k) dX9_weaves_279 ?_
            refine lk_iload dX9_weaves_280 rfl ?_
            refine lk_iastN (f := 0) (i := 24 + k) (v := (V 6 (k))) dX9_weaves_282 rfl (by decide) rfl (by omega) (by decide) ?_
            refine lk_sg (σ' := (lk_ms W2 (lk_ou V3 6 (k) (V 6 (k))) T)) (lk_w6 (by omega) (by omega)) ?_
            refine lk_aload_n dX9_weaves_283 rfl rfl ?_
            refine lk_getR (f := 0) dX9_weaves_284 rfl fX9_9 (by decide) (by decide) ?_
            refine lk_bipush (v := 24) dX9_weaves_287 (by decide) ?_
            refine lk_iload_n dX9_weaves_289 rfl rfl ?_
            refine lk_iaddN (a := 24) (b := k) dX9_weaves_290 ?_
            refine lk_iconst (v := 1) dX9_weaves_291 (by decide) ?_
            refine lk_iaddN (a := 24 + k) (b := 1) dX9_weaves_292 ?_
            refine lk_iload dX9_weaves_293 rfl ?_
            refine lk_iastN (f := 0) (i := 24 + k + 1) (v := (V 6 (k + 1))) dX9_weaves_295 rfl (by decide) rfl (by omega) (by decide) ?_
            refine lk_sg (σ' := (lk_ms W2 (lk_ou (lk_ou V3 6 (k) (V 6 (k))) 6 (k + 1) (V 6 (k + 1))) T)) (lk_w6 (by omega) (by omega)) ?_
            refine lk_aload_n dX9_weaves_296 rfl rfl ?_
            refine lk_getR (f := 0) dX9_weaves_297 rfl fX9_9 (by decide) (by decide) ?_
            refine lk_bipush (v := 12) dX9_weaves_300 (by decide) ?_
            refine lk_iload_n dX9_weaves_302 rfl rfl ?_
            refine lk_iaddN (a := 12) (b := k) dX9_weaves_303 ?_
            refine lk_iload dX9_weaves_304 rfl ?_
            refine lk_iastN (f := 0) (i := 12 + k) (v := (V 4 (k))) dX9_weaves_306 rfl (by decide) rfl (by omega) (by decide) ?_
            refine lk_sg (σ' := (lk_ms W2 (lk_ou (lk_ou (lk_ou V3 6 (k) (V 6 (k))) 6 (k + 1) (V 6 (k + 1))) 4 (k) (V 4 (k))) T)) (lk_w4 (by omega) (by omega)) ?_
            refine lk_aload_n dX9_weaves_307 rfl rfl ?_
            refine lk_getR (f := 0) dX9_weaves_308 rfl fX9_9 (by decide) (by decide) ?_
            refine lk_bipush (v := 18) dX9_weaves_311 (by decide) ?_
            refine lk_iload_n dX9_weaves_313 rfl rfl ?_
            refine lk_iaddN (a := 18) (b := k) dX9_weaves_314 ?_
            refine lk_iload dX9_weaves_315 rfl ?_
            refine lk_iastN (f := 0) (i := 18 + k) (v := (V 5 (k))) dX9_weaves_317 rfl (by decide) rfl (by omega) (by decide) ?_
            refine lk_sg (σ' := (lk_ms W2 (lk_ou (lk_ou (lk_ou (lk_ou V3 6 (k) (V 6 (k))) 6 (k + 1) (V 6 (k + 1))) 4 (k) (V 4 (k))) 5 (k) (V 5 (k))) T)) (lk_w5 (by omega) (by omega)) ?_
            refine lk_sg (σ' := lk_ms W2 V T) (by rw [lk_near_back hnV3]) ?_
            have hE : lk_wvm (B 1) (lk_qb B nf k).2 (lk_qa B nf k).2 k bb aa (r + 1) i j so V a row = lk_wvm (B 1) (lk_qb B nf k).2 (lk_qa B nf k).2 k bb aa r i (j + 1) (so + (V 6 (k + 1) - V3 6 (k + 1))) V3 a1 (lk_rw row (i + j) (nI ((lk_qa B nf k).2 j))) := by
              rw [lk_wvm, ← ha1]
              show (if j < aa then _ else a1) = _
              rw [if_pos (show j < aa by omega), hp2] <;> rfl
            have hW9 : lk_wvP σ W2 (i + j) (lk_wvm (B 1) (lk_qb B nf k).2 (lk_qa B nf k).2 k bb aa (r + 1) i j so V a row) := ⟨(lk_fx_tr fa (lk_fx_tr (lk_fx_up (lk_fx_up (lk_fx_rf _ _) (by decide)) (by decide)) hW2.1)), fun x hx => ((hW2.2.1 x (by omega)).trans (by simp only [lk_up]; rw [if_neg (by simp; omega), if_neg (by simp)]; exact oa x hx)).trans (hro x hx).symm, by rw [hE]; exact hW2.2.2.1, by rw [hE]; exact hW2.2.2.2.1, fun x => by rw [hE]; exact hW2.2.2.2.2 x⟩
            obtain ⟨Wb, hWb⟩ : ∃ w : lk_N, w = W2 := ⟨_, rfl⟩
            refine lk_sg (σ' := lk_ms Wb V T) (by rw [hWb]) ?_
            rw [← hWb] at hW9
            refine lk_iincN (a := 1) (m := 1) (L' := [(0, lk_vr 1 0), (1, lk_vi (nI (k))), (2, lk_vi (nI (i))), (3, lk_vi (nI (j))), (4, lk_vi (so)), (5, lk_vi (V 6 (k))), (6, lk_vi (V 6 (k + 1))), (7, lk_vi (V 4 (k))), (8, lk_vi (V 5 (k))), (9, lk_vi (nI (1 + 1))), (10, lk_vi (nI ((lk_qa B nf k).2 j)))]) dX9_weaves_318 rfl rfl (by decide +kernel) rfl ?_
            refine lk_cast (L' := [(0, lk_vr 1 0), (1, lk_vi (nI (k))), (2, lk_vi (nI (i))), (3, lk_vi (nI (j))), (4, lk_vi (so)), (5, lk_vi (V 6 (k))), (6, lk_vi (V 6 (k + 1))), (7, lk_vi (V 4 (k))), (8, lk_vi (V 5 (k))), (9, lk_vi 2), (10, lk_vi (nI ((lk_qa B nf k).2 j)))]) rfl rfl rfl ?_
            refine lk_goto (tgt := 133) dX9_weaves_321 (by decide) ?_
            refine lk_iload dX9_weaves_133 rfl ?_
            refine lk_iconst (v := 2) dX9_weaves_135 (by decide) ?_
            refine lk_icmp_geN (a := 2) (b := 2) (tgt := 324) dX9_weaves_136 (by decide) (by omega) (by omega) (fun hh31 => ?_) (fun hh31 => absurd hh31 (by decide))
            refine lk_vret dX9_weaves_324 rfl ?_
            rw [hQ]
            exact ⟨rfl, rfl, Wb, rfl, hW9⟩
          ·
            refine lk_callV (o := 1) (as := [lk_vi (nI (k)), lk_vi 0, lk_vi (B 1 ((lk_qa B nf k).2 j))]) (S := []) dX9_weaves_220 rfl vX9_goes rfl lX9_140 rfl rfl (Nat.le_of_ble_eq_true rfl) (tX9_goes_dn_no l X d Wa τ (k := (k)) (z := (B 1 ((lk_qa B nf k).2 j))) (V := V) (T := T) (n := n) (hV := hV) (hr := hr) (hk := hk) (q := q2) (h := hp2)) ?_
            refine lk_k5 (fun s2 => ?_)
            refine lk_cast (pc' := 223) (S' := [lk_vi 0]) rfl rfl rfl ?_
            refine lk_sg (σ' := (lk_ms (lk_up (lk_bar Wa q2) 1 6 0 s2) V T)) rfl ?_
            refine lk_if_eq (tgt := 272) dX9_weaves_223 (by decide) (fun hh32 => ?_) (fun hh32 => absurd hh32 (by decide))
            refine lk_aload_n dX9_weaves_272 rfl rfl ?_
            refine lk_getR (f := 0) dX9_weaves_273 rfl fX9_9 (by decide) (by decide) ?_
            refine lk_bipush (v := 24) dX9_weaves_276 (by decide) ?_
            refine lk_iload_n dX9_weaves_278 rfl rfl ?_
            refine lk_iaddN (a := 24) (b := k) dX9_weaves_279 ?_
            refine lk_iload dX9_weaves_280 rfl ?_
            refine lk_iastN (f := 0) (i := 24 + k) (v := (V 6 (k))) dX9_weaves_282 rfl (by decide) rfl (by omega) (by decide) ?_
            refine lk_sg (σ' := (lk_ms (lk_up (lk_bar Wa q2) 1 6 0 s2) (lk_ou V 6 (k) (V 6 (k))) T)) (lk_w6 (by omega) (by omega)) ?_
            refine lk_aload_n dX9_weaves_283 rfl rfl ?_
            refine lk_getR (f := 0) dX9_weaves_284 rfl fX9_9 (by decide) (by decide) ?_
            refine lk_bipush (v := 24) dX9_weaves_287 (by decide) ?_
            refine lk_iload_n dX9_weaves_289 rfl rfl ?_
            refine lk_iaddN (a := 24) (b := k) dX9_weaves_290 ?_
            refine lk_iconst (v := 1) dX9_weaves_291 (by decide) ?_
            refine lk_iaddN (a := 24 + k) (b := 1) dX9_weaves_292 ?_
            refine lk_iload dX9_weaves_293 rfl ?_
            refine lk_iastN (f := 0) (i := 24 + k + 1) (v := (V 6 (k + 1))) dX9_weaves_295 rfl (by decide) rfl (by omega) (by decide) ?_
            refine lk_sg (σ' := (lk_ms (lk_up (lk_bar Wa q2) 1 6 0 s2) (lk_ou (lk_ou V 6 (k) (V 6 (k))) 6 (k + 1) (V 6 (k + 1))) T)) (lk_w6 (by omega) (by omega)) ?_
            refine lk_aload_n dX9_weaves_296 rfl rfl ?_
            refine lk_getR (f := 0) dX9_weaves_297 rfl fX9_9 (by decide) (by decide) ?_
            refine lk_bipush (v := 12) dX9_weaves_300 (by decide) ?_
            refine lk_iload_n dX9_weaves_302 rfl rfl ?_
            refine lk_iaddN (a := 12) (b := k) dX9_weaves_303 ?_
            refine lk_iload dX9_weaves_304 rfl ?_
            refine lk_iastN (f := 0) (i := 12 + k) (v := (V 4 (k))) dX9_weaves_306 rfl (by decide) rfl (by omega) (by decide) ?_
            refine lk_sg (σ' := (lk_ms (lk_up (lk_bar Wa q2) 1 6 0 s2) (lk_ou (lk_ou (lk_ou V 6 (k) (V 6 (k))) 6 (k + 1) (V 6 (k + 1))) 4 (k) (V 4 (k))) T)) (lk_w4 (by omega) (by omega)) ?_
            refine lk_aload_n dX9_weaves_307 rfl rfl ?_
            refine lk_getR (f := 0) dX9_weaves_308 rfl fX9_9 (by decide) (by decide) ?_
            refine lk_bipush (v := 18) dX9_weaves_311 (by decide) ?_
            refine lk_iload_n dX9_weaves_313 rfl rfl ?_
            refine lk_iaddN (a := 18) (b := k) dX9_weaves_314 ?_
            refine lk_iload dX9_weaves_315 rfl ?_
            refine lk_iastN (f := 0) (i := 18 + k) (v := (V 5 (k))) dX9_weaves_317 rfl (by decide) rfl (by omega) (by decide) ?_
            refine lk_sg (σ' := (lk_ms (lk_up (lk_bar Wa q2) 1 6 0 s2) (lk_ou (lk_ou (lk_ou (lk_ou V 6 (k) (V 6 (k))) 6 (k + 1) (V 6 (k + 1))) 4 (k) (V 4 (k))) 5 (k) (V 5 (k))) T)) (lk_w5 (by omega) (by omega)) ?_
            refine lk_sg (σ' := lk_ms (lk_up (lk_bar Wa q2) 1 6 0 s2) V T) (by rw [lk_near_back (lk_near_rf V k)]) ?_
            have hE : lk_wvm (B 1) (lk_qb B nf k).2 (lk_qa B nf k).2 k bb aa (r + 1) i j so V a row = a1 := by
              rw [lk_wvm, ← ha1]
              show (if j < aa then _ else a1) = _
              rw [if_pos (show j < aa by omega), hp2] <;> rfl
            have hW9 : lk_wvP σ (lk_up (lk_bar Wa q2) 1 6 0 s2) (i + j) (lk_wvm (B 1) (lk_qb B nf k).2 (lk_qa B nf k).2 k bb aa (r + 1) i j so V a row) := ⟨(lk_fx_up (lk_fx_bar fa (by decide) (by decide) (by decide)) (by decide)), fun x hx => (oa x hx).trans (hro x hx).symm, by rw [hE]; exact ga, by rw [hE]; exact ba, fun x => by rw [hE]; exact ra x⟩
            obtain ⟨Wb, hWb⟩ : ∃ w : lk_N, w = (lk_up (lk_bar Wa q2) 1 6 0 s2) := ⟨_, rfl⟩
            refine lk_sg (σ' := lk_ms Wb V T) (by rw [hWb]) ?_
            rw [← hWb] at hW9
            refine lk_iincN (a := 1) (m := 1) (L' := [(0, lk_vr 1 0), (1, lk_vi (nI (k))), (2, lk_vi (nI (i))), (3, lk_vi (nI (j))), (4, lk_vi (so)), (5, lk_vi (V 6 (k))), (6, lk_vi (V 6 (k + 1))), (7, lk_vi (V 4 (k))), (8, lk_vi (V 5 (k))), (9, lk_vi (nI (1 + 1))), (10, lk_vi (nI ((lk_qa B nf k).2 j)))]) dX9_weaves_318 rfl rfl (by decide +kernel) rfl ?_
            refine lk_cast (L' := [(0, lk_vr 1 0), (1, lk_vi (nI (k))), (2, lk_vi (nI (i))), (3, lk_vi (nI (j))), (4, lk_vi (so)), (5, lk_vi (V 6 (k))), (6, lk_vi (V 6 (k + 1))), (7, lk_vi (V 4 (k))), (8, lk_vi (V 5 (k))), (9, lk_vi 2), (10, lk_vi (nI ((lk_qa B nf k).2 j)))]) rfl rfl rfl ?_
            refine lk_goto (tgt := 133) dX9_weaves_321 (by decide) ?_
            refine lk_iload dX9_weaves_133 rfl ?_
            refine lk_iconst (v := 2) dX9_weaves_135 (by decide) ?_
            refine lk_icmp_geN (a := 2) (b := 2) (tgt := 324) dX9_weaves_136 (by decide) (by omega) (by omega) (fun hh33 => ?_) (fun hh33 => absurd hh33 (by decide))
            refine lk_vret dX9_weaves_324 rfl ?_
            rw [hQ]
            exact ⟨rfl, rfl, Wb, rfl, hW9⟩
        ·
          refine lk_goto (tgt := 318) dX9_weaves_173 (by decide) ?_
          have hE : lk_wvm (B 1) (lk_qb B nf k).2 (lk_qa B nf k).2 k bb aa (r + 1) i j so V a row = a1 := by
            rw [lk_wvm, ← ha1]
            show (if j < aa then _ else a1) = _
            rw [if_neg (show ¬ j < aa by omega)] <;> rfl
          have hW9 : lk_wvP σ Wa (i + j) (lk_wvm (B 1) (lk_qb B nf k).2 (lk_qa B nf k).2 k bb aa (r + 1) i j so V a row) := ⟨fa, fun x hx => (oa x hx).trans (hro x hx).symm, by rw [hE]; exact ga, by rw [hE]; exact ba, fun x => by rw [hE]; exact ra x⟩
          obtain ⟨Wb, hWb⟩ : ∃ w : lk_N, w = Wa := ⟨_, rfl⟩
          refine lk_sg (σ' := lk_ms Wb V T) (by rw [hWb]) ?_
          rw [← hWb] at hW9
          refine lk_iincN (a := 1) (m := 1) (L' := [(0, lk_vr 1 0), (1, lk_vi (nI (k))), (2, lk_vi (nI (i))), (3, lk_vi (nI (j))), (4, lk_vi (so)), (5, lk_vi (V 6 (k))), (6, lk_vi (V 6 (k + 1))), (7, lk_vi (V 4 (k))), (8, lk_vi (V 5 (k))), (9, lk_vi (nI (1 + 1))), (10, lk_vi (nI ((lk_qb B nf k).2 i)))]) dX9_weaves_318 rfl rfl (by decide +kernel) rfl ?_
          refine lk_cast (L' := [(0, lk_vr 1 0), (1, lk_vi (nI (k))), (2, lk_vi (nI (i))), (3, lk_vi (nI (j))), (4, lk_vi (so)), (5, lk_vi (V 6 (k))), (6, lk_vi (V 6 (k + 1))), (7, lk_vi (V 4 (k))), (8, lk_vi (V 5 (k))), (9, lk_vi 2), (10, lk_vi (nI ((lk_qb B nf k).2 i)))]) rfl rfl rfl ?_
          refine lk_goto (tgt := 133) dX9_weaves_321 (by decide) ?_
          refine lk_iload dX9_weaves_133 rfl ?_
          refine lk_iconst (v := 2) dX9_weaves_135 (by decide) ?_
          refine lk_icmp_geN (a := 2) (b := 2) (tgt := 324) dX9_weaves_136 (by decide) (by omega) (by omega) (fun hh34 => ?_) (fun hh34 => absurd hh34 (by decide))
          refine lk_vret dX9_weaves_324 rfl ?_
          rw [hQ]
          exact ⟨rfl, rfl, Wb, rfl, hW9⟩
    ·
      refine lk_goto (tgt := 318) dX9_weaves_157 (by decide) ?_
      obtain ⟨a1, ha1⟩ : ∃ a1 : lk_a, a1 = (if i < bb then lk_mt (lk_pas V k true (B 1 ((lk_qb B nf k).2 i))) (fun V' => lk_wvm (B 1) (lk_qb B nf k).2 (lk_qa B nf k).2 k bb aa r (i + 1) j (so + (V 6 (k + 1) - V' 6 (k + 1))) V' a (lk_rw row (i + j) (nI ((lk_qb B nf k).2 i)))) a else a) := ⟨_, rfl⟩
      have ha2 := ha1
      rw [if_neg (show ¬ i < bb by omega)] at ha2
      have hA : lk_fx [6, 7, 8, 9, 25, 26, 27, 28] σ σ ∧ (∀ x, x < i + j → σ 1 27 x = row x) ∧ σ 1 25 0 = nI a1.1 ∧ σ 1 26 0 = a1.2.1 ∧ ∀ x, σ 1 28 x = a1.2.2 x := ⟨(lk_fx_rf _ _), fun x hx => hro x hx, by rw [ha2]; exact hg, by rw [ha2]; exact hb, fun x => by rw [ha2]; exact hrw x⟩
      obtain ⟨Wa, hWa, fa, oa, ga, ba, ra⟩ : ∃ w : lk_N, w = σ ∧ (lk_fx [6, 7, 8, 9, 25, 26, 27, 28] σ w ∧ (∀ x, x < i + j → w 1 27 x = row x) ∧ w 1 25 0 = nI a1.1 ∧ w 1 26 0 = a1.2.1 ∧ ∀ x, w 1 28 x = a1.2.2 x) := ⟨_, rfl, hA⟩
      refine lk_sg (σ' := lk_ms Wa V T) (by rw [hWa]) ?_
      clear hWa hA
      refine lk_iincN (a := 0) (m := 1) (L' := [(0, lk_vr 1 0), (1, lk_vi (nI (k))), (2, lk_vi (nI (i))), (3, lk_vi (nI (j))), (4, lk_vi (so)), (5, lk_vi (V 6 (k))), (6, lk_vi (V 6 (k + 1))), (7, lk_vi (V 4 (k))), (8, lk_vi (V 5 (k))), (9, lk_vi (nI (0 + 1)))]) dX9_weaves_318 rfl rfl (by decide +kernel) rfl ?_
      refine lk_cast (L' := [(0, lk_vr 1 0), (1, lk_vi (nI (k))), (2, lk_vi (nI (i))), (3, lk_vi (nI (j))), (4, lk_vi (so)), (5, lk_vi (V 6 (k))), (6, lk_vi (V 6 (k + 1))), (7, lk_vi (V 4 (k))), (8, lk_vi (V 5 (k))), (9, lk_vi 1)]) rfl rfl rfl ?_
      refine lk_goto (tgt := 133) dX9_weaves_321 (by decide) ?_
      refine lk_iload dX9_weaves_133 rfl ?_
      refine lk_iconst (v := 2) dX9_weaves_135 (by decide) ?_
      refine lk_icmp_geN (a := 1) (b := 2) (tgt := 324) dX9_weaves_136 (by decide) (by omega) (by omega) (fun hh35 => absurd hh35 (by decide)) (fun hh35 => ?_)
      refine lk_iload dX9_weaves_139 rfl ?_
      refine lk_if_ne (tgt := 160) dX9_weaves_141 (by decide) (fun hh36 => ?_) (fun hh36 => absurd hh36 (by decide))
      refine lk_iload_n dX9_weaves_160 rfl rfl ?_
      refine lk_bipush (v := 6) dX9_weaves_161 (by decide) ?_
      refine lk_aload_n dX9_weaves_163 rfl rfl ?_
      refine lk_getIv (v := (nI ((lk_qa B nf k).1))) (f := 19) dX9_weaves_164 rfl fX9_171 (by decide) (by decide) ((lk_rf (by decide)).trans (lk_lq_w fa hq).2.1) ?_
      refine lk_mmin dX9_weaves_167 lX9_177 (Nat.le_of_ble_eq_true rfl) ?_
      refine lk_eqtop (y := (nI (aa))) (by rw [haa]; exact lk_min6m (by omega)) ?_
      refine lk_icmp_neN (a := j) (b := aa) (tgt := 176) dX9_weaves_170 (by decide) (by omega) (by omega) (fun hh37 => ?_) (fun hh37 => ?_)
      ·
        refine lk_iload dX9_weaves_176 rfl ?_
        refine lk_if_ne (tgt := 190) dX9_weaves_178 (by decide) (fun hh38 => ?_) (fun hh38 => absurd hh38 (by decide))
        refine lk_aload_n dX9_weaves_190 rfl rfl ?_
        refine lk_getR (f := 21) dX9_weaves_191 rfl fX9_33 (by decide) (by decide) ?_
        refine lk_iload_n dX9_weaves_194 rfl rfl ?_
        refine lk_ialdN (f := 21) (i := j) dX9_weaves_195 rfl (by decide) rfl (by omega) (by decide) ?_
        refine lk_eqtop (y := (nI ((lk_qa B nf k).2 j))) ((lk_rf (by decide)).trans ((lk_lq_w fa hq).2.2.2 j (by omega))) ?_
        refine lk_istore (L' := [(0, lk_vr 1 0), (1, lk_vi (nI (k))), (2, lk_vi (nI (i))), (3, lk_vi (nI (j))), (4, lk_vi (so)), (5, lk_vi (V 6 (k))), (6, lk_vi (V 6 (k + 1))), (7, lk_vi (V 4 (k))), (8, lk_vi (V 5 (k))), (9, lk_vi 1), (10, lk_vi (nI ((lk_qa B nf k).2 j)))]) dX9_weaves_196 (by decide +kernel) rfl ?_
        have hql : ((lk_qa B nf k).2 j) < nf := lk_gat_lt B (nI (k + 1)) 0 nf j (show j < (lk_qa B nf k).1 by omega)
        refine lk_aload_n dX9_weaves_198 rfl rfl ?_
        refine lk_iload_n dX9_weaves_199 rfl rfl ?_
        refine lk_iload dX9_weaves_200 rfl ?_
        refine lk_if_ne (tgt := 209) dX9_weaves_202 (by decide) (fun hh39 => ?_) (fun hh39 => absurd hh39 (by decide))
        refine lk_iconst (v := 0) dX9_weaves_209 (by decide) ?_
        refine lk_aload_n dX9_weaves_210 rfl rfl ?_
        refine lk_getR (f := 0) dX9_weaves_211 rfl fX9_9 (by decide) (by decide) ?_
        refine lk_bipush (v := 66) dX9_weaves_214 (by decide) ?_
        refine lk_iload dX9_weaves_216 rfl ?_
        refine lk_iaddN (a := 66) (b := (lk_qa B nf k).2 j) dX9_weaves_218 ?_
        refine lk_ialdN (f := 0) (i := 66 + (lk_qa B nf k).2 j) dX9_weaves_219 rfl (by decide) rfl (by omega) (by decide) ?_
        refine lk_eqtop (y := (B 1 ((lk_qa B nf k).2 j))) ((lk_rB (by omega)).trans ((lk_bv_w fa hB) _ hql).2.1) ?_
        rcases hp2 : lk_pas V k false (B 1 ((lk_qa B nf k).2 j)) with V3 | q2
        ·
          have hnV3 := (lk_pas_ok hp2 (hV.2.2.2 k hk6) (hz _ hql).1 (hz _ hql).2).1
          refine lk_callV (o := 1) (as := [lk_vi (nI (k)), lk_vi 0, lk_vi (B 1 ((lk_qa B nf k).2 j))]) (S := []) dX9_weaves_220 rfl vX9_goes rfl lX9_140 rfl rfl (Nat.le_of_ble_eq_true rfl) (tX9_goes_dn_ok l X d Wa τ (k := (k)) (z := (B 1 ((lk_qa B nf k).2 j))) (V := V) (T := T) (n := n) (hV := hV) (hr := hr) (hk := hk) (W := V3) (h := hp2)) ?_
          refine lk_k3 ?_
          refine lk_cast (pc' := 223) (S' := [lk_vi 1]) rfl rfl rfl ?_
          refine lk_if_eq (tgt := 272) dX9_weaves_223 (by decide) (fun hh40 => absurd hh40 (by decide)) (fun hh40 => ?_)
          refine lk_aload_n dX9_weaves_226 rfl rfl ?_
          refine lk_getR (f := 27) dX9_weaves_227 rfl fX9_36 (by decide) (by decide) ?_
          refine lk_iload_n dX9_weaves_230 rfl rfl ?_
          refine lk_iload_n dX9_weaves_231 rfl rfl ?_
          refine lk_iaddN (a := i) (b := j) dX9_weaves_232 ?_
          refine lk_iload dX9_weaves_233 rfl ?_
          refine lk_iastN (f := 27) (i := i + j) (v := (nI ((lk_qa B nf k).2 j))) dX9_weaves_235 rfl (by decide) rfl (by omega) (by decide) ?_
          refine lk_sg (σ' := (lk_ms (lk_up (lk_up Wa 1 6 0 (V 6 (k + 1) - V3 6 (k + 1))) 1 27 (i + j) (nI ((lk_qa B nf k).2 j))) V3 T)) (lk_wf (by decide)) ?_
          refine lk_aload_n dX9_weaves_236 rfl rfl ?_
          refine lk_iload_n dX9_weaves_237 rfl rfl ?_
          refine lk_iload dX9_weaves_238 rfl ?_
          refine lk_if_ne (tgt := 249) dX9_weaves_240 (by decide) (fun hh41 => ?_) (fun hh41 => absurd hh41 (by decide))
          refine lk_iload_n dX9_weaves_249 rfl rfl ?_
          refine lk_iload dX9_weaves_250 rfl ?_
          refine lk_if_ne (tgt := 259) dX9_weaves_252 (by decide) (fun hh42 => ?_) (fun hh42 => absurd hh42 (by decide))
          refine lk_iload_n dX9_weaves_259 rfl rfl ?_
          refine lk_iconst (v := 1) dX9_weaves_260 (by decide) ?_
          refine lk_iaddN (a := j) (b := 1) dX9_weaves_261 ?_
          refine lk_iload dX9_weaves_262 rfl ?_
          refine lk_aload_n dX9_weaves_264 rfl rfl ?_
          refine lk_getIv (v := ((V 6 (k + 1) - V3 6 (k + 1)))) (f := 6) dX9_weaves_265 rfl fX9_137 (by decide) (by decide) ((lk_rf (by decide)).trans rfl) ?_
          refine lk_iadd dX9_weaves_268 ?_
          refine lk_callV (o := 1) (as := [lk_vi (nI (k)), lk_vi (nI (i)), lk_vi (nI (j + 1)), lk_vi ((so) + ((V 6 (k + 1) - V3 6 (k + 1))))]) (S := []) dX9_weaves_269 rfl vX9_weaves rfl lX9_188 rfl rfl (Nat.le_of_ble_eq_true rfl) (ihw (lk_up (lk_up Wa 1 6 0 (V 6 (k + 1) - V3 6 (k + 1))) 1 27 (i + j) (nI ((lk_qa B nf k).2 j))) V3 i (j + 1) (((so) + ((V 6 (k + 1) - V3 6 (k + 1))))) a1 (lk_rw row (i + j) (nI ((lk_qa B nf k).2 j))) (lk_pas_cok hp2 hk hV (hz _ hql).1 (hz _ hql).2) (lk_pas_rok hr hk6 hp2) (lk_bv_w (σ := Wa) (lk_fx_up (lk_fx_up (lk_fx_rf _ _) (by decide)) (by decide)) (lk_bv_w fa hB)) (lk_lq_w (σ := Wa) (lk_fx_up (lk_fx_up (lk_fx_rf _ _) (by decide)) (by decide)) (lk_lq_w fa hq)) (by omega) (by omega) (by omega) ga ba ra (fun x hx => by
                simp only [lk_up, lk_rw]
                by_cases c : x = i + j
                · subst c; simp
                · rw [if_neg (by simp [c]), if_neg c]
                  exact oa x (by omega))) ?_
          refine lk_k4 (fun W2 hW2 => ?_)
          refine lk_cast (pc' := 272) (S' := []) rfl rfl rfl ?_
          refine lk_sg (σ' := (lk_ms W2 V3 T)) rfl ?_
          refine lk_aload_n dX9_weaves_272 rfl rfl ?_
          refine lk_getR (f := 0) dX9_weaves_273 rfl fX9_9 (by decide) (by decide) ?_
          refine lk_bipush (v := 24) dX9_weaves_276 (by decide) ?_
          refine lk_iload_n dX9_weaves_278 rfl rfl ?_
          refine lk_iaddN (a := 24) (b := k) dX9_weaves_279 ?_
          refine lk_iload dX9_weaves_280 rfl ?_
          refine lk_iastN (f := 0) (i := 24 + k) (v := (V 6 (k))) dX9_weaves_282 rfl (by decide) rfl (by omega) (by decide) ?_
          refine lk_sg (σ' := (lk_ms W2 (lk_ou V3 6 (k) (V 6 (k))) T)) (lk_w6 (by omega) (by omega)) ?_
          refine lk_aload_n dX9_weaves_283 rfl rfl ?_
          refine lk_getR (f := 0) dX9_weaves_284 rfl fX9_9 (by decide) (by decide) ?_
          refine lk_bipush (v := 24) dX9_weaves_287 (by decide) ?_
          refine lk_iload_n dX9_weaves_289 rfl rfl ?_
          refine lk_iaddN (a := 24) (b := k) dX9_weaves_290 ?_
          refine lk_iconst (v := 1) dX9_weaves_291 (by decide) ?_
          refine lk_iaddN (a := 24 + k) (b := 1) dX9_weaves_292 ?_
          refine lk_iload dX9_weaves_293 rfl ?_
          refine lk_iastN (f := 0) (i := 24 + k + 1) (v := (V 6 (k + 1))) dX9_weaves_295 rfl (by decide) rfl (by omega) (by decide) ?_
          refine lk_sg (σ' := (lk_ms W2 (lk_ou (lk_ou V3 6 (k) (V 6 (k))) 6 (k + 1) (V 6 (k + 1))) T)) (lk_w6 (by omega) (by omega)) ?_
          refine lk_aload_n dX9_weaves_296 rfl rfl ?_
          refine lk_getR (f := 0) dX9_weaves_297 rfl fX9_9 (by decide) (by decide) ?_
          refine lk_bipush (v := 12) dX9_weaves_300 (by decide) ?_
          refine lk_iload_n dX9_weaves_302 rfl rfl ?_
          refine lk_iaddN (a := 12) (b := k) dX9_weaves_303 ?_
          refine lk_iload dX9_weaves_304 rfl ?_
          refine lk_iastN (f := 0) (i := 12 + k) (v := (V 4 (k))) dX9_weaves_306 rfl (by decide) rfl (by omega) (by decide) ?_
          refine lk_sg (σ' := (lk_ms W2 (lk_ou (lk_ou (lk_ou V3 6 (k) (V 6 (k))) 6 (k + 1) (V 6 (k + 1))) 4 (k) (V 4 (k))) T)) (lk_w4 (by omega) (by omega)) ?_
          refine lk_aload_n dX9_weaves_307 rfl rfl ?_
          refine lk_getR (f := 0) dX9_weaves_308 rfl fX9_9 (by decide) (by decide) ?_
          refine lk_bipush (v := 18) dX9_weaves_311 (by decide) ?_
          refine lk_iload_n dX9_weaves_313 rfl rfl ?_
          refine lk_iaddN (a := 18) (b := k) dX9_weaves_314 ?_
          refine lk_iload dX9_weaves_315 rfl ?_
          refine lk_iastN (f := 0) (i := 18 + k) (v := (V 5 (k))) dX9_weaves_317 rfl (by decide) rfl (by omega) (by decide) ?_
          refine lk_sg (σ' := (lk_ms W2 (lk_ou (lk_ou (lk_ou (lk_ou V3 6 (k) (V 6 (k))) 6 (k + 1) (V 6 (k + 1))) 4 (k) (V 4 (k))) 5 (k) (V 5 (k))) T)) (lk_w5 (by omega) (by omega)) ?_
          refine lk_sg (σ' := lk_ms W2 V T) (by rw [lk_near_back hnV3]) ?_
          have hE : lk_wvm (B 1) (lk_qb B nf k).2 (lk_qa B nf k).2 k bb aa (r + 1) i j so V a row = lk_wvm (B 1) (lk_qb B nf k).2 (lk_qa B nf k).2 k bb aa r i (j + 1) (so + (V 6 (k + 1) - V3 6 (k + 1))) V3 a1 (lk_rw row (i + j) (nI ((lk_qa B nf k).2 j))) := by
            rw [lk_wvm, ← ha1]
            show (if j < aa then _ else a1) = _
            rw [if_pos (show j < aa by omega), hp2] <;> rfl
          have hW9 : lk_wvP σ W2 (i + j) (lk_wvm (B 1) (lk_qb B nf k).2 (lk_qa B nf k).2 k bb aa (r + 1) i j so V a row) := ⟨(lk_fx_tr fa (lk_fx_tr (lk_fx_up (lk_fx_up (lk_fx_rf _ _) (by decide)) (by decide)) hW2.1)), fun x hx => ((hW2.2.1 x (by omega)).trans (by simp only [lk_up]; rw [if_neg (by simp; omega), if_neg (by simp)]; exact oa x hx)).trans (hro x hx).symm, by rw [hE]; exact hW2.2.2.1, by rw [hE]; exact hW2.2.2.2.1, fun x => by rw [hE]; exact hW2.2.2.2.2 x⟩
          obtain ⟨Wb, hWb⟩ : ∃ w : lk_N, w = W2 := ⟨_, rfl⟩
          refine lk_sg (σ' := lk_ms Wb V T) (by rw [hWb]) ?_
          rw [← hWb] at hW9
          refine lk_iincN (a := 1) (m := 1) (L' := [(0, lk_vr 1 0), (1, lk_vi (nI (k))), (2, lk_vi (nI (i))), (3, lk_vi (nI (j))), (4, lk_vi (so)), (5, lk_vi (V 6 (k))), (6, lk_vi (V 6 (k + 1))), (7, lk_vi (V 4 (k))), (8, lk_vi (V 5 (k))), (9, lk_vi (nI (1 + 1))), (10, lk_vi (nI ((lk_qa B nf k).2 j)))]) dX9_weaves_318 rfl rfl (by decide +kernel) rfl ?_
          refine lk_cast (L' := [(0, lk_vr 1 0), (1, lk_vi (nI (k))), (2, lk_vi (nI (i))), (3, lk_vi (nI (j))), (4, lk_vi (so)), (5, lk_vi (V 6 (k))), (6, lk_vi (V 6 (k + 1))), (7, lk_vi (V 4 (k))), (8, lk_vi (V 5 (k))), (9, lk_vi 2), (10, lk_vi (nI ((lk_qa B nf k).2 j)))]) rfl rfl rfl ?_
          refine lk_goto (tgt := 133) dX9_weaves_321 (by decide) ?_
          refine lk_iload dX9_weaves_133 rfl ?_
          refine lk_iconst (v := 2) dX9_weaves_135 (by decide) ?_
          refine lk_icmp_geN (a := 2) (b := 2) (tgt := 324) dX9_weaves_136 (by decide) (by omega) (by omega) (fun hh43 => ?_) (fun hh43 => absurd hh43 (by decide))
          refine lk_vret dX9_weaves_324 rfl ?_
          rw [hQ]
          exact ⟨rfl, rfl, Wb, rfl, hW9⟩
        ·
          refine lk_callV (o := 1) (as := [lk_vi (nI (k)), lk_vi 0, lk_vi (B 1 ((lk_qa B nf k).2 j))]) (S := []) dX9_weaves_220 rfl vX9_goes rfl lX9_140 rfl rfl (Nat.le_of_ble_eq_true rfl) (tX9_goes_dn_no l X d Wa τ (k := (k)) (z := (B 1 ((lk_qa B nf k).2 j))) (V := V) (T := T) (n := n) (hV := hV) (hr := hr) (hk := hk) (q := q2) (h := hp2)) ?_
          refine lk_k5 (fun s2 => ?_)
          refine lk_cast (pc' := 223) (S' := [lk_vi 0]) rfl rfl rfl ?_
          refine lk_sg (σ' := (lk_ms (lk_up (lk_bar Wa q2) 1 6 0 s2) V T)) rfl ?_
          refine lk_if_eq (tgt := 272) dX9_weaves_223 (by decide) (fun hh44 => ?_) (fun hh44 => absurd hh44 (by decide))
          refine lk_aload_n dX9_weaves_272 rfl rfl ?_
          refine lk_getR (f := 0) dX9_weaves_273 rfl fX9_9 (by decide) (by decide) ?_
          refine lk_bipush (v := 24) dX9_weaves_276 (by decide) ?_
          refine lk_iload_n dX9_weaves_278 rfl rfl ?_
          refine lk_iaddN (a := 24) (b := k) dX9_weaves_279 ?_
          refine lk_iload dX9_weaves_280 rfl ?_
          refine lk_iastN (f := 0) (i := 24 + k) (v := (V 6 (k))) dX9_weaves_282 rfl (by decide) rfl (by omega) (by decide) ?_
          refine lk_sg (σ' := (lk_ms (lk_up (lk_bar Wa q2) 1 6 0 s2) (lk_ou V 6 (k) (V 6 (k))) T)) (lk_w6 (by omega) (by omega)) ?_
          refine lk_aload_n dX9_weaves_283 rfl rfl ?_
          refine lk_getR (f := 0) dX9_weaves_284 rfl fX9_9 (by decide) (by decide) ?_
          refine lk_bipush (v := 24) dX9_weaves_287 (by decide) ?_
          refine lk_iload_n dX9_weaves_289 rfl rfl ?_
          refine lk_iaddN (a := 24) (b := k) dX9_weaves_290 ?_
          refine lk_iconst (v := 1) dX9_weaves_291 (by decide) ?_
          refine lk_iaddN (a := 24 + k) (b := 1) dX9_weaves_292 ?_
          refine lk_iload dX9_weaves_293 rfl ?_
          refine lk_iastN (f := 0) (i := 24 + k + 1) (v := (V 6 (k + 1))) dX9_weaves_295 rfl (by decide) rfl (by omega) (by decide) ?_
          refine lk_sg (σ' := (lk_ms (lk_up (lk_bar Wa q2) 1 6 0 s2) (lk_ou (lk_ou V 6 (k) (V 6 (k))) 6 (k + 1) (V 6 (k + 1))) T)) (lk_w6 (by omega) (by omega)) ?_
          refine lk_aload_n dX9_weaves_296 rfl rfl ?_
          refine lk_getR (f := 0) dX9_weaves_297 rfl fX9_9 (by decide) (by decide) ?_
          refine lk_bipush (v := 12) dX9_weaves_300 (by decide) ?_
          refine lk_iload_n dX9_weaves_302 rfl rfl ?_
          refine lk_iaddN (a := 12) (b := k) dX9_weaves_303 ?_
          refine lk_iload dX9_weaves_304 rfl ?_
          refine lk_iastN (f := 0) (i := 12 + k) (v := (V 4 (k))) dX9_weaves_306 rfl (by decide) rfl (by omega) (by decide) ?_
          refine lk_sg (σ' := (lk_ms (lk_up (lk_bar Wa q2) 1 6 0 s2) (lk_ou (lk_ou (lk_ou V 6 (k) (V 6 (k))) 6 (k + 1) (V 6 (k + 1))) 4 (k) (V 4 (k))) T)) (lk_w4 (by omega) (by omega)) ?_
          refine lk_aload_n dX9_weaves_307 rfl rfl ?_
          refine lk_getR (f := 0) dX9_weaves_308 rfl fX9_9 (by decide) (by decide) ?_
          refine lk_bipush (v := 18) dX9_weaves_311 (by decide) ?_
          refine lk_iload_n dX9_weaves_313 rfl rfl ?_
          refine lk_iaddN (a := 18) (b := k) dX9_weaves_314 ?_
          refine lk_iload dX9_weaves_315 rfl ?_
          refine lk_iastN (f := 0) (i := 18 + k) (v := (V 5 (k))) dX9_weaves_317 rfl (by decide) rfl (by omega) (by decide) ?_
          refine lk_sg (σ' := (lk_ms (lk_up (lk_bar Wa q2) 1 6 0 s2) (lk_ou (lk_ou (lk_ou (lk_ou V 6 (k) (V 6 (k))) 6 (k + 1) (V 6 (k + 1))) 4 (k) (V 4 (k))) 5 (k) (V 5 (k))) T)) (lk_w5 (by omega) (by omega)) ?_
          refine lk_sg (σ' := lk_ms (lk_up (lk_bar Wa q2) 1 6 0 s2) V T) (by rw [lk_near_back (lk_near_rf V k)]) ?_
          have hE : lk_wvm (B 1) (lk_qb B nf k).2 (lk_qa B nf k).2 k bb aa (r + 1) i j so V a row = a1 := by
            rw [lk_wvm, ← ha1]
            show (if j < aa then _ else a1) = _
            rw [if_pos (show j < aa by omega), hp2] <;> rfl
          have hW9 : lk_wvP σ (lk_up (lk_bar Wa q2) 1 6 0 s2) (i + j) (lk_wvm (B 1) (lk_qb B nf k).2 (lk_qa B nf k).2 k bb aa (r + 1) i j so V a row) := ⟨(lk_fx_up (lk_fx_bar fa (by decide) (by decide) (by decide)) (by decide)), fun x hx => (oa x hx).trans (hro x hx).symm, by rw [hE]; exact ga, by rw [hE]; exact ba, fun x => by rw [hE]; exact ra x⟩
          obtain ⟨Wb, hWb⟩ : ∃ w : lk_N, w = (lk_up (lk_bar Wa q2) 1 6 0 s2) := ⟨_, rfl⟩
          refine lk_sg (σ' := lk_ms Wb V T) (by rw [hWb]) ?_
          rw [← hWb] at hW9
          refine lk_iincN (a := 1) (m := 1) (L' := [(0, lk_vr 1 0), (1, lk_vi (nI (k))), (2, lk_vi (nI (i))), (3, lk_vi (nI (j))), (4, lk_vi (so)), (5, lk_vi (V 6 (k))), (6, lk_vi (V 6 (k + 1))), (7, lk_vi (V 4 (k))), (8, lk_vi (V 5 (k))), (9, lk_vi (nI (1 + 1))), (10, lk_vi (nI ((lk_qa B nf k).2 j)))]) dX9_weaves_318 rfl rfl (by decide +kernel) rfl ?_
          refine lk_cast (L' := [(0, lk_vr 1 0), (1, lk_vi (nI (k))), (2, lk_vi (nI (i))), (3, lk_vi (nI (j))), (4, lk_vi (so)), (5, lk_vi (V 6 (k))), (6, lk_vi (V 6 (k + 1))), (7, lk_vi (V 4 (k))), (8, lk_vi (V 5 (k))), (9, lk_vi 2), (10, lk_vi (nI ((lk_qa B nf k).2 j)))]) rfl rfl rfl ?_
          refine lk_goto (tgt := 133) dX9_weaves_321 (by decide) ?_
          refine lk_iload dX9_weaves_133 rfl ?_
          refine lk_iconst (v := 2) dX9_weaves_135 (by decide) ?_
          refine lk_icmp_geN (a := 2) (b := 2) (tgt := 324) dX9_weaves_136 (by decide) (by omega) (by omega) (fun hh45 => ?_) (fun hh45 => absurd hh45 (by decide))
          refine lk_vret dX9_weaves_324 rfl ?_
          rw [hQ]
          exact ⟨rfl, rfl, Wb, rfl, hW9⟩
      ·
        refine lk_goto (tgt := 318) dX9_weaves_173 (by decide) ?_
        have hE : lk_wvm (B 1) (lk_qb B nf k).2 (lk_qa B nf k).2 k bb aa (r + 1) i j so V a row = a1 := by
          rw [lk_wvm, ← ha1]
          show (if j < aa then _ else a1) = _
          rw [if_neg (show ¬ j < aa by omega)] <;> rfl
        have hW9 : lk_wvP σ Wa (i + j) (lk_wvm (B 1) (lk_qb B nf k).2 (lk_qa B nf k).2 k bb aa (r + 1) i j so V a row) := ⟨fa, fun x hx => (oa x hx).trans (hro x hx).symm, by rw [hE]; exact ga, by rw [hE]; exact ba, fun x => by rw [hE]; exact ra x⟩
        obtain ⟨Wb, hWb⟩ : ∃ w : lk_N, w = Wa := ⟨_, rfl⟩
        refine lk_sg (σ' := lk_ms Wb V T) (by rw [hWb]) ?_
        rw [← hWb] at hW9
        refine lk_iincN (a := 1) (m := 1) (L' := [(0, lk_vr 1 0), (1, lk_vi (nI (k))), (2, lk_vi (nI (i))), (3, lk_vi (nI (j))), (4, lk_vi (so)), (5, lk_vi (V 6 (k))), (6, lk_vi (V 6 (k + 1))), (7, lk_vi (V 4 (k))), (8, lk_vi (V 5 (k))), (9, lk_vi (nI (1 + 1)))]) dX9_weaves_318 rfl rfl (by decide +kernel) rfl ?_
        refine lk_cast (L' := [(0, lk_vr 1 0), (1, lk_vi (nI (k))), (2, lk_vi (nI (i))), (3, lk_vi (nI (j))), (4, lk_vi (so)), (5, lk_vi (V 6 (k))), (6, lk_vi (V 6 (k + 1))), (7, lk_vi (V 4 (k))), (8, lk_vi (V 5 (k))), (9, lk_vi 2)]) rfl rfl rfl ?_
        refine lk_goto (tgt := 133) dX9_weaves_321 (by decide) ?_
        refine lk_iload dX9_weaves_133 rfl ?_
        refine lk_iconst (v := 2) dX9_weaves_135 (by decide) ?_
        refine lk_icmp_geN (a := 2) (b := 2) (tgt := 324) dX9_weaves_136 (by decide) (by omega) (by omega) (fun hh46 => ?_) (fun hh46 => absurd hh46 (by decide))
        refine lk_vret dX9_weaves_324 rfl ?_
        rw [hQ]
        exact ⟨rfl, rfl, Wb, rfl, hW9⟩
  ·
    refine lk_iload_n dX9_weaves_13 rfl rfl ?_
    refine lk_bipush (v := 6) dX9_weaves_14 (by decide) ?_
    refine lk_aload_n dX9_weaves_16 rfl rfl ?_
    refine lk_getIv (v := (nI ((lk_qa B nf k).1))) (f := 19) dX9_weaves_17 rfl fX9_171 (by decide) (by decide) ((lk_rf (by decide)).trans hq.2.1) ?_
    refine lk_mmin dX9_weaves_20 lX9_177 (Nat.le_of_ble_eq_true rfl) ?_
    refine lk_eqtop (y := (nI (aa))) (by rw [haa]; exact lk_min6m (by omega)) ?_
    refine lk_icmp_neN (a := j) (b := aa) (tgt := 84) dX9_weaves_23 (by decide) (by omega) (by omega) (fun hh47 => ?_) (fun hh47 => ?_)
    ·
      refine lk_aload_n dX9_weaves_84 rfl rfl ?_
      refine lk_getR (f := 0) dX9_weaves_85 rfl fX9_9 (by decide) (by decide) ?_
      refine lk_bipush (v := 24) dX9_weaves_88 (by decide) ?_
      refine lk_iload_n dX9_weaves_90 rfl rfl ?_
      refine lk_iaddN (a := 24) (b := k) dX9_weaves_91 ?_
      refine lk_ialdN (f := 0) (i := 24 + k) dX9_weaves_92 rfl (by decide) rfl (by omega) (by decide) ?_
      refine lk_eqtop (y := (V 6 (k))) (lk_r6 (by omega) (by omega)) ?_
      refine lk_istore (L' := [(0, lk_vr 1 0), (1, lk_vi (nI (k))), (2, lk_vi (nI (i))), (3, lk_vi (nI (j))), (4, lk_vi (so)), (5, lk_vi (V 6 (k)))]) dX9_weaves_93 (by decide +kernel) rfl ?_
      refine lk_aload_n dX9_weaves_95 rfl rfl ?_
      refine lk_getR (f := 0) dX9_weaves_96 rfl fX9_9 (by decide) (by decide) ?_
      refine lk_bipush (v := 24) dX9_weaves_99 (by decide) ?_
      refine lk_iload_n dX9_weaves_101 rfl rfl ?_
      refine lk_iaddN (a := 24) (b := k) dX9_weaves_102 ?_
      refine lk_iconst (v := 1) dX9_weaves_103 (by decide) ?_
      refine lk_iaddN (a := 24 + k) (b := 1) dX9_weaves_104 ?_
      refine lk_ialdN (f := 0) (i := 24 + k + 1) dX9_weaves_105 rfl (by decide) rfl (by omega) (by decide) ?_
      refine lk_eqtop (y := (V 6 (k + 1))) (lk_r6 (by omega) (by omega)) ?_
      refine lk_istore (L' := [(0, lk_vr 1 0), (1, lk_vi (nI (k))), (2, lk_vi (nI (i))), (3, lk_vi (nI (j))), (4, lk_vi (so)), (5, lk_vi (V 6 (k))), (6, lk_vi (V 6 (k + 1)))]) dX9_weaves_106 (by decide +kernel) rfl ?_
      refine lk_aload_n dX9_weaves_108 rfl rfl ?_
      refine lk_getR (f := 0) dX9_weaves_109 rfl fX9_9 (by decide) (by decide) ?_
      refine lk_bipush (v := 12) dX9_weaves_112 (by decide) ?_
      refine lk_iload_n dX9_weaves_114 rfl rfl ?_
      refine lk_iaddN (a := 12) (b := k) dX9_weaves_115 ?_
      refine lk_ialdN (f := 0) (i := 12 + k) dX9_weaves_116 rfl (by decide) rfl (by omega) (by decide) ?_
      refine lk_eqtop (y := (V 4 (k))) (lk_r4 (by omega) (by omega)) ?_
      refine lk_istore (L' := [(0, lk_vr 1 0), (1, lk_vi (nI (k))), (2, lk_vi (nI (i))), (3, lk_vi (nI (j))), (4, lk_vi (so)), (5, lk_vi (V 6 (k))), (6, lk_vi (V 6 (k + 1))), (7, lk_vi (V 4 (k)))]) dX9_weaves_117 (by decide +kernel) rfl ?_
      refine lk_aload_n dX9_weaves_119 rfl rfl ?_
      refine lk_getR (f := 0) dX9_weaves_120 rfl fX9_9 (by decide) (by decide) ?_
      refine lk_bipush (v := 18) dX9_weaves_123 (by decide) ?_
      refine lk_iload_n dX9_weaves_125 rfl rfl ?_
      refine lk_iaddN (a := 18) (b := k) dX9_weaves_126 ?_
      refine lk_ialdN (f := 0) (i := 18 + k) dX9_weaves_127 rfl (by decide) rfl (by omega) (by decide) ?_
      refine lk_eqtop (y := (V 5 (k))) (lk_r5 (by omega) (by omega)) ?_
      refine lk_istore (L' := [(0, lk_vr 1 0), (1, lk_vi (nI (k))), (2, lk_vi (nI (i))), (3, lk_vi (nI (j))), (4, lk_vi (so)), (5, lk_vi (V 6 (k))), (6, lk_vi (V 6 (k + 1))), (7, lk_vi (V 4 (k))), (8, lk_vi (V 5 (k)))]) dX9_weaves_128 (by decide +kernel) rfl ?_
      refine lk_iconst (v := 0) dX9_weaves_130 (by decide) ?_
      refine lk_istore (L' := [(0, lk_vr 1 0), (1, lk_vi (nI (k))), (2, lk_vi (nI (i))), (3, lk_vi (nI (j))), (4, lk_vi (so)), (5, lk_vi (V 6 (k))), (6, lk_vi (V 6 (k + 1))), (7, lk_vi (V 4 (k))), (8, lk_vi (V 5 (k))), (9, lk_vi 0)]) dX9_weaves_131 (by decide +kernel) rfl ?_
      refine lk_iload dX9_weaves_133 rfl ?_
      refine lk_iconst (v := 2) dX9_weaves_135 (by decide) ?_
      refine lk_icmp_geN (a := 0) (b := 2) (tgt := 324) dX9_weaves_136 (by decide) (by omega) (by omega) (fun hh48 => absurd hh48 (by decide)) (fun hh48 => ?_)
      refine lk_iload dX9_weaves_139 rfl ?_
      refine lk_if_ne (tgt := 160) dX9_weaves_141 (by decide) (fun hh49 => absurd hh49 (by decide)) (fun hh49 => ?_)
      refine lk_iload_n dX9_weaves_144 rfl rfl ?_
      refine lk_bipush (v := 6) dX9_weaves_145 (by decide) ?_
      refine lk_aload_n dX9_weaves_147 rfl rfl ?_
      refine lk_getIv (v := (nI ((lk_qb B nf k).1))) (f := 18) dX9_weaves_148 rfl fX9_168 (by decide) (by decide) ((lk_rf (by decide)).trans hq.1) ?_
      refine lk_mmin dX9_weaves_151 lX9_177 (Nat.le_of_ble_eq_true rfl) ?_
      refine lk_eqtop (y := (nI (bb))) (by rw [hbb]; exact lk_min6m (by omega)) ?_
      refine lk_icmp_neN (a := i) (b := bb) (tgt := 176) dX9_weaves_154 (by decide) (by omega) (by omega) (fun hh50 => ?_) (fun hh50 => ?_)
      ·
        refine lk_iload dX9_weaves_176 rfl ?_
        refine lk_if_ne (tgt := 190) dX9_weaves_178 (by decide) (fun hh51 => absurd hh51 (by decide)) (fun hh51 => ?_)
        refine lk_aload_n dX9_weaves_181 rfl rfl ?_
        refine lk_getR (f := 20) dX9_weaves_182 rfl fX9_30 (by decide) (by decide) ?_
        refine lk_iload_n dX9_weaves_185 rfl rfl ?_
        refine lk_ialdN (f := 20) (i := i) dX9_weaves_186 rfl (by decide) rfl (by omega) (by decide) ?_
        refine lk_eqtop (y := (nI ((lk_qb B nf k).2 i))) ((lk_rf (by decide)).trans (hq.2.2.1 i (by omega))) ?_
        refine lk_goto (tgt := 196) dX9_weaves_187 (by decide) ?_
        refine lk_istore (L' := [(0, lk_vr 1 0), (1, lk_vi (nI (k))), (2, lk_vi (nI (i))), (3, lk_vi (nI (j))), (4, lk_vi (so)), (5, lk_vi (V 6 (k))), (6, lk_vi (V 6 (k + 1))), (7, lk_vi (V 4 (k))), (8, lk_vi (V 5 (k))), (9, lk_vi 0), (10, lk_vi (nI ((lk_qb B nf k).2 i)))]) dX9_weaves_196 (by decide +kernel) rfl ?_
        have hql : ((lk_qb B nf k).2 i) < nf := lk_gat_lt B (nI k) 1 nf i (show i < (lk_qb B nf k).1 by omega)
        refine lk_aload_n dX9_weaves_198 rfl rfl ?_
        refine lk_iload_n dX9_weaves_199 rfl rfl ?_
        refine lk_iload dX9_weaves_200 rfl ?_
        refine lk_if_ne (tgt := 209) dX9_weaves_202 (by decide) (fun hh52 => absurd hh52 (by decide)) (fun hh52 => ?_)
        refine lk_iconst (v := 1) dX9_weaves_205 (by decide) ?_
        refine lk_goto (tgt := 210) dX9_weaves_206 (by decide) ?_
        refine lk_aload_n dX9_weaves_210 rfl rfl ?_
        refine lk_getR (f := 0) dX9_weaves_211 rfl fX9_9 (by decide) (by decide) ?_
        refine lk_bipush (v := 66) dX9_weaves_214 (by decide) ?_
        refine lk_iload dX9_weaves_216 rfl ?_
        refine lk_iaddN (a := 66) (b := (lk_qb B nf k).2 i) dX9_weaves_218 ?_
        refine lk_ialdN (f := 0) (i := 66 + (lk_qb B nf k).2 i) dX9_weaves_219 rfl (by decide) rfl (by omega) (by decide) ?_
        refine lk_eqtop (y := (B 1 ((lk_qb B nf k).2 i))) ((lk_rB (by omega)).trans (hB _ hql).2.1) ?_
        rcases hp : lk_pas V k true (B 1 ((lk_qb B nf k).2 i)) with V2 | q
        ·
          have hnV2 := (lk_pas_ok hp (hV.2.2.2 k hk6) (hz _ hql).1 (hz _ hql).2).1
          refine lk_callV (o := 1) (as := [lk_vi (nI (k)), lk_vi 1, lk_vi (B 1 ((lk_qb B nf k).2 i))]) (S := []) dX9_weaves_220 rfl vX9_goes rfl lX9_140 rfl rfl (Nat.le_of_ble_eq_true rfl) (tX9_goes_up_ok l X d σ τ (k := (k)) (z := (B 1 ((lk_qb B nf k).2 i))) (V := V) (T := T) (n := n) (hV := hV) (hr := hr) (hk := hk) (W := V2) (h := hp)) ?_
          refine lk_k3 ?_
          refine lk_cast (pc' := 223) (S' := [lk_vi 1]) rfl rfl rfl ?_
          refine lk_if_eq (tgt := 272) dX9_weaves_223 (by decide) (fun hh53 => absurd hh53 (by decide)) (fun hh53 => ?_)
          refine lk_aload_n dX9_weaves_226 rfl rfl ?_
          refine lk_getR (f := 27) dX9_weaves_227 rfl fX9_36 (by decide) (by decide) ?_
          refine lk_iload_n dX9_weaves_230 rfl rfl ?_
          refine lk_iload_n dX9_weaves_231 rfl rfl ?_
          refine lk_iaddN (a := i) (b := j) dX9_weaves_232 ?_
          refine lk_iload dX9_weaves_233 rfl ?_
          refine lk_iastN (f := 27) (i := i + j) (v := (nI ((lk_qb B nf k).2 i))) dX9_weaves_235 rfl (by decide) rfl (by omega) (by decide) ?_
          refine lk_sg (σ' := (lk_ms (lk_up (lk_up σ 1 6 0 (V 6 (k + 1) - V2 6 (k + 1))) 1 27 (i + j) (nI ((lk_qb B nf k).2 i))) V2 T)) (lk_wf (by decide)) ?_
          refine lk_aload_n dX9_weaves_236 rfl rfl ?_
          refine lk_iload_n dX9_weaves_237 rfl rfl ?_
          refine lk_iload dX9_weaves_238 rfl ?_
          refine lk_if_ne (tgt := 249) dX9_weaves_240 (by decide) (fun hh54 => absurd hh54 (by decide)) (fun hh54 => ?_)
          refine lk_iload_n dX9_weaves_243 rfl rfl ?_
          refine lk_iconst (v := 1) dX9_weaves_244 (by decide) ?_
          refine lk_iaddN (a := i) (b := 1) dX9_weaves_245 ?_
          refine lk_goto (tgt := 250) dX9_weaves_246 (by decide) ?_
          refine lk_iload dX9_weaves_250 rfl ?_
          refine lk_if_ne (tgt := 259) dX9_weaves_252 (by decide) (fun hh55 => absurd hh55 (by decide)) (fun hh55 => ?_)
          refine lk_iload_n dX9_weaves_255 rfl rfl ?_
          refine lk_goto (tgt := 262) dX9_weaves_256 (by decide) ?_
          refine lk_iload dX9_weaves_262 rfl ?_
          refine lk_aload_n dX9_weaves_264 rfl rfl ?_
          refine lk_getIv (v := ((V 6 (k + 1) - V2 6 (k + 1)))) (f := 6) dX9_weaves_265 rfl fX9_137 (by decide) (by decide) ((lk_rf (by decide)).trans rfl) ?_
          refine lk_iadd dX9_weaves_268 ?_
          refine lk_callV (o := 1) (as := [lk_vi (nI (k)), lk_vi (nI (i + 1)), lk_vi (nI (j)), lk_vi ((so) + ((V 6 (k + 1) - V2 6 (k + 1))))]) (S := []) dX9_weaves_269 rfl vX9_weaves rfl lX9_188 rfl rfl (Nat.le_of_ble_eq_true rfl) (ihw (lk_up (lk_up σ 1 6 0 (V 6 (k + 1) - V2 6 (k + 1))) 1 27 (i + j) (nI ((lk_qb B nf k).2 i))) V2 (i + 1) j (((so) + ((V 6 (k + 1) - V2 6 (k + 1))))) a (lk_rw row (i + j) (nI ((lk_qb B nf k).2 i))) (lk_pas_cok hp hk hV (hz _ hql).1 (hz _ hql).2) (lk_pas_rok hr hk6 hp) (lk_bv_w (σ := σ) (lk_fx_up (lk_fx_up (lk_fx_rf _ _) (by decide)) (by decide)) hB) (lk_lq_w (σ := σ) (lk_fx_up (lk_fx_up (lk_fx_rf _ _) (by decide)) (by decide)) hq) (by omega) (by omega) (by omega) hg hb hrw (fun x hx => by
                simp only [lk_up, lk_rw]
                by_cases c : x = i + j
                · subst c; simp
                · rw [if_neg (by simp [c]), if_neg c]
                  exact hro x (by omega))) ?_
          refine lk_k4 (fun W1 hW1 => ?_)
          refine lk_cast (pc' := 272) (S' := []) rfl rfl rfl ?_
          refine lk_sg (σ' := (lk_ms W1 V2 T)) rfl ?_
          refine lk_aload_n dX9_weaves_272 rfl rfl ?_
          refine lk_getR (f := 0) dX9_weaves_273 rfl fX9_9 (by decide) (by decide) ?_
          refine lk_bipush (v := 24) dX9_weaves_276 (by decide) ?_
          refine lk_iload_n dX9_weaves_278 rfl rfl ?_
          refine lk_iaddN (a := 24) (b := k) dX9_weaves_279 ?_
          refine lk_iload dX9_weaves_280 rfl ?_
          refine lk_iastN (f := 0) (i := 24 + k) (v := (V 6 (k))) dX9_weaves_282 rfl (by decide) rfl (by omega) (by decide) ?_
          refine lk_sg (σ' := (lk_ms W1 (lk_ou V2 6 (k) (V 6 (k))) T)) (lk_w6 (by omega) (by omega)) ?_
          refine lk_aload_n dX9_weaves_283 rfl rfl ?_
          refine lk_getR (f := 0) dX9_weaves_284 rfl fX9_9 (by decide) (by decide) ?_
          refine lk_bipush (v := 24) dX9_weaves_287 (by decide) ?_
          refine lk_iload_n dX9_weaves_289 rfl rfl ?_
          refine lk_iaddN (a := 24) (b := k) dX9_weaves_290 ?_
          refine lk_iconst (v := 1) dX9_weaves_291 (by decide) ?_
          refine lk_iaddN (a := 24 + k) (b := 1) dX9_weaves_292 ?_
          refine lk_iload dX9_weaves_293 rfl ?_
          refine lk_iastN (f := 0) (i := 24 + k + 1) (v := (V 6 (k + 1))) dX9_weaves_295 rfl (by decide) rfl (by omega) (by decide) ?_
          refine lk_sg (σ' := (lk_ms W1 (lk_ou (lk_ou V2 6 (k) (V 6 (k))) 6 (k + 1) (V 6 (k + 1))) T)) (lk_w6 (by omega) (by omega)) ?_
          refine lk_aload_n dX9_weaves_296 rfl rfl ?_
          refine lk_getR (f := 0) dX9_weaves_297 rfl fX9_9 (by decide) (by decide) ?_
          refine lk_bipush (v := 12) dX9_weaves_300 (by decide) ?_
          refine lk_iload_n dX9_weaves_302 rfl rfl ?_
          refine lk_iaddN (a := 12) (b := k) dX9_weaves_303 ?_
          refine lk_iload dX9_weaves_304 rfl ?_
          refine lk_iastN (f := 0) (i := 12 + k) (v := (V 4 (k))) dX9_weaves_306 rfl (by decide) rfl (by omega) (by decide) ?_
          refine lk_sg (σ' := (lk_ms W1 (lk_ou (lk_ou (lk_ou V2 6 (k) (V 6 (k))) 6 (k + 1) (V 6 (k + 1))) 4 (k) (V 4 (k))) T)) (lk_w4 (by omega) (by omega)) ?_
          refine lk_aload_n dX9_weaves_307 rfl rfl ?_
          refine lk_getR (f := 0) dX9_weaves_308 rfl fX9_9 (by decide) (by decide) ?_
          refine lk_bipush (v := 18) dX9_weaves_311 (by decide) ?_
          refine lk_iload_n dX9_weaves_313 rfl rfl ?_
          refine lk_iaddN (a := 18) (b := k) dX9_weaves_314 ?_
          refine lk_iload dX9_weaves_315 rfl ?_
          refine lk_iastN (f := 0) (i := 18 + k) (v := (V 5 (k))) dX9_weaves_317 rfl (by decide) rfl (by omega) (by decide) ?_
          refine lk_sg (σ' := (lk_ms W1 (lk_ou (lk_ou (lk_ou (lk_ou V2 6 (k) (V 6 (k))) 6 (k + 1) (V 6 (k + 1))) 4 (k) (V 4 (k))) 5 (k) (V 5 (k))) T)) (lk_w5 (by omega) (by omega)) ?_
          refine lk_sg (σ' := lk_ms W1 V T) (by rw [lk_near_back hnV2]) ?_
          obtain ⟨a1, ha1⟩ : ∃ a1 : lk_a, a1 = (if i < bb then lk_mt (lk_pas V k true (B 1 ((lk_qb B nf k).2 i))) (fun V' => lk_wvm (B 1) (lk_qb B nf k).2 (lk_qa B nf k).2 k bb aa r (i + 1) j (so + (V 6 (k + 1) - V' 6 (k + 1))) V' a (lk_rw row (i + j) (nI ((lk_qb B nf k).2 i)))) a else a) := ⟨_, rfl⟩
          have ha2 := ha1
          rw [if_pos (show i < bb by omega), hp] at ha2
          have hA : lk_fx [6, 7, 8, 9, 25, 26, 27, 28] σ W1 ∧ (∀ x, x < i + j → W1 1 27 x = row x) ∧ W1 1 25 0 = nI a1.1 ∧ W1 1 26 0 = a1.2.1 ∧ ∀ x, W1 1 28 x = a1.2.2 x := ⟨(lk_fx_tr (lk_fx_up (lk_fx_up (lk_fx_rf _ _) (by decide)) (by decide)) hW1.1), fun x hx => (hW1.2.1 x (by omega)).trans (by simp only [lk_up]; rw [if_neg (by simp; omega), if_neg (by simp)]; exact hro x hx), by rw [ha2]; exact hW1.2.2.1, by rw [ha2]; exact hW1.2.2.2.1, fun x => by rw [ha2]; exact hW1.2.2.2.2 x⟩
          obtain ⟨Wa, hWa, fa, oa, ga, ba, ra⟩ : ∃ w : lk_N, w = W1 ∧ (lk_fx [6, 7, 8, 9, 25, 26, 27, 28] σ w ∧ (∀ x, x < i + j → w 1 27 x = row x) ∧ w 1 25 0 = nI a1.1 ∧ w 1 26 0 = a1.2.1 ∧ ∀ x, w 1 28 x = a1.2.2 x) := ⟨_, rfl, hA⟩
          refine lk_sg (σ' := lk_ms Wa V T) (by rw [hWa]) ?_
          clear hWa hA
          refine lk_iincN (a := 0) (m := 1) (L' := [(0, lk_vr 1 0), (1, lk_vi (nI (k))), (2, lk_vi (nI (i))), (3, lk_vi (nI (j))), (4, lk_vi (so)), (5, lk_vi (V 6 (k))), (6, lk_vi (V 6 (k + 1))), (7, lk_vi (V 4 (k))), (8, lk_vi (V 5 (k))), (9, lk_vi (nI (0 + 1))), (10, lk_vi (nI ((lk_qb B nf k).2 i)))]) dX9_weaves_318 rfl rfl (by decide +kernel) rfl ?_
          refine lk_cast (L' := [(0, lk_vr 1 0), (1, lk_vi (nI (k))), (2, lk_vi (nI (i))), (3, lk_vi (nI (j))), (4, lk_vi (so)), (5, lk_vi (V 6 (k))), (6, lk_vi (V 6 (k + 1))), (7, lk_vi (V 4 (k))), (8, lk_vi (V 5 (k))), (9, lk_vi 1), (10, lk_vi (nI ((lk_qb B nf k).2 i)))]) rfl rfl rfl ?_
          refine lk_goto (tgt := 133) dX9_weaves_321 (by decide) ?_
          refine lk_iload dX9_weaves_133 rfl ?_
          refine lk_iconst (v := 2) dX9_weaves_135 (by decide) ?_
          refine lk_icmp_geN (a := 1) (b := 2) (tgt := 324) dX9_weaves_136 (by decide) (by omega) (by omega) (fun hh56 => absurd hh56 (by decide)) (fun hh56 => ?_)
          refine lk_iload dX9_weaves_139 rfl ?_
          refine lk_if_ne (tgt := 160) dX9_weaves_141 (by decide) (fun hh57 => ?_) (fun hh57 => absurd hh57 (by decide))
          refine lk_iload_n dX9_weaves_160 rfl rfl ?_
          refine lk_bipush (v := 6) dX9_weaves_161 (by decide) ?_
          refine lk_aload_n dX9_weaves_163 rfl rfl ?_
          refine lk_getIv (v := (nI ((lk_qa B nf k).1))) (f := 19) dX9_weaves_164 rfl fX9_171 (by decide) (by decide) ((lk_rf (by decide)).trans (lk_lq_w fa hq).2.1) ?_
          refine lk_mmin dX9_weaves_167 lX9_177 (Nat.le_of_ble_eq_true rfl) ?_
          refine lk_eqtop (y := (nI (aa))) (by rw [haa]; exact lk_min6m (by omega)) ?_
          refine lk_icmp_neN (a := j) (b := aa) (tgt := 176) dX9_weaves_170 (by decide) (by omega) (by omega) (fun hh58 => ?_) (fun hh58 => ?_)
          ·
            refine lk_iload dX9_weaves_176 rfl ?_
            refine lk_if_ne (tgt := 190) dX9_weaves_178 (by decide) (fun hh59 => ?_) (fun hh59 => absurd hh59 (by decide))
            refine lk_aload_n dX9_weaves_190 rfl rfl ?_
            refine lk_getR (f := 21) dX9_weaves_191 rfl fX9_33 (by decide) (by decide) ?_
            refine lk_iload_n dX9_weaves_194 rfl rfl ?_
            refine lk_ialdN (f := 21) (i := j) dX9_weaves_195 rfl (by decide) rfl (by omega) (by decide) ?_
            refine lk_eqtop (y := (nI ((lk_qa B nf k).2 j))) ((lk_rf (by decide)).trans ((lk_lq_w fa hq).2.2.2 j (by omega))) ?_
            refine lk_istore (L' := [(0, lk_vr 1 0), (1, lk_vi (nI (k))), (2, lk_vi (nI (i))), (3, lk_vi (nI (j))), (4, lk_vi (so)), (5, lk_vi (V 6 (k))), (6, lk_vi (V 6 (k + 1))), (7, lk_vi (V 4 (k))), (8, lk_vi (V 5 (k))), (9, lk_vi 1), (10, lk_vi (nI ((lk_qa B nf k).2 j)))]) dX9_weaves_196 (by decide +kernel) rfl ?_
            have hql : ((lk_qa B nf k).2 j) < nf := lk_gat_lt B (nI (k + 1)) 0 nf j (show j < (lk_qa B nf k).1 by omega)
            refine lk_aload_n dX9_weaves_198 rfl rfl ?_
            refine lk_iload_n dX9_weaves_199 rfl rfl ?_
            refine lk_iload dX9_weaves_200 rfl ?_
            refine lk_if_ne (tgt := 209) dX9_weaves_202 (by decide) (fun hh60 => ?_) (fun hh60 => absurd hh60 (by decide))
            refine lk_iconst (v := 0) dX9_weaves_209 (by decide) ?_
            refine lk_aload_n dX9_weaves_210 rfl rfl ?_
            refine lk_getR (f := 0) dX9_weaves_211 rfl fX9_9 (by decide) (by decide) ?_
            refine lk_bipush (v := 66) dX9_weaves_214 (by decide) ?_
            refine lk_iload dX9_weaves_216 rfl ?_
            refine lk_iaddN (a := 66) (b := (lk_qa B nf k).2 j) dX9_weaves_218 ?_
            refine lk_ialdN (f := 0) (i := 66 + (lk_qa B nf k).2 j) dX9_weaves_219 rfl (by decide) rfl (by omega) (by decide) ?_
            refine lk_eqtop (y := (B 1 ((lk_qa B nf k).2 j))) ((lk_rB (by omega)).trans ((lk_bv_w fa hB) _ hql).2.1) ?_
            rcases hp2 : lk_pas V k false (B 1 ((lk_qa B nf k).2 j)) with V3 | q2
            ·
              have hnV3 := (lk_pas_ok hp2 (hV.2.2.2 k hk6) (hz _ hql).1 (hz _ hql).2).1
              refine lk_callV (o := 1) (as := [lk_vi (nI (k)), lk_vi 0, lk_vi (B 1 ((lk_qa B nf k).2 j))]) (S := []) dX9_weaves_220 rfl vX9_goes rfl lX9_140 rfl rfl (Nat.le_of_ble_eq_true rfl) (tX9_goes_dn_ok l X d Wa τ (k := (k)) (z := (B 1 ((lk_qa B nf k).2 j))) (V := V) (T := T) (n := n) (hV := hV) (hr := hr) (hk := hk) (W := V3) (h := hp2)) ?_
              refine lk_k3 ?_
              refine lk_cast (pc' := 223) (S' := [lk_vi 1]) rfl rfl rfl ?_
              refine lk_if_eq (tgt := 272) dX9_weaves_223 (by decide) (fun hh61 => absurd hh61 (by decide)) (fun hh61 => ?_)
              refine lk_aload_n dX9_weaves_226 rfl rfl ?_
              refine lk_getR (f := 27) dX9_weaves_227 rfl fX9_36 (by decide) (by decide) ?_
              refine lk_iload_n dX9_weaves_230 rfl rfl ?_
              refine lk_iload_n dX9_weaves_231 rfl rfl ?_
              refine lk_iaddN (a := i) (b := j) dX9_weaves_232 ?_
              refine lk_iload dX9_weaves_233 rfl ?_
              refine lk_iastN (f := 27) (i := i + j) (v := (nI ((lk_qa B nf k).2 j))) dX9_weaves_235 rfl (by decide) rfl (by omega) (by decide) ?_
              refine lk_sg (σ' := (lk_ms (lk_up (lk_up Wa 1 6 0 (V 6 (k + 1) - V3 6 (k + 1))) 1 27 (i + j) (nI ((lk_qa B nf k).2 j))) V3 T)) (lk_wf (by decide)) ?_
              refine lk_aload_n dX9_weaves_236 rfl rfl ?_
              refine lk_iload_n dX9_weaves_237 rfl rfl ?_
              refine lk_iload dX9_weaves_238 rfl ?_
              refine lk_if_ne (tgt := 249) dX9_weaves_240 (by decide) (fun hh62 => ?_) (fun hh62 => absurd hh62 (by decide))
              refine lk_iload_n dX9_weaves_249 rfl rfl ?_
              refine lk_iload dX9_weaves_250 rfl ?_
              refine lk_if_ne (tgt := 259) dX9_weaves_252 (by decide) (fun hh63 => ?_) (fun hh63 => absurd hh63 (by decide))
              refine lk_iload_n dX9_weaves_259 rfl rfl ?_
              refine lk_iconst (v := 1) dX9_weaves_260 (by decide) ?_
              refine lk_iaddN (a := j) (b := 1) dX9_weaves_261 ?_
              refine lk_iload dX9_weaves_262 rfl ?_
              refine lk_aload_n dX9_weaves_264 rfl rfl ?_
              refine lk_getIv (v := ((V 6 (k + 1) - V3 6 (k + 1)))) (f := 6) dX9_weaves_265 rfl fX9_137 (by decide) (by decide) ((lk_rf (by decide)).trans rfl) ?_
              refine lk_iadd dX9_weaves_268 ?_
              refine lk_callV (o := 1) (as := [lk_vi (nI (k)), lk_vi (nI (i)), lk_vi (nI (j + 1)), lk_vi ((so) + ((V 6 (k + 1) - V3 6 (k + 1))))]) (S := []) dX9_weaves_269 rfl vX9_weaves rfl lX9_188 rfl rfl (Nat.le_of_ble_eq_true rfl) (ihw (lk_up (lk_up Wa 1 6 0 (V 6 (k + 1) - V3 6 (k + 1))) 1 27 (i + j) (nI ((lk_qa B nf k).2 j))) V3 i (j + 1) (((so) + ((V 6 (k + 1) - V3 6 (k + 1))))) a1 (lk_rw row (i + j) (nI ((lk_qa B nf k).2 j))) (lk_pas_cok hp2 hk hV (hz _ hql).1 (hz _ hql).2) (lk_pas_rok hr hk6 hp2) (lk_bv_w (σ := Wa) (lk_fx_up (lk_fx_up (lk_fx_rf _ _) (by decide)) (by decide)) (lk_bv_w fa hB)) (lk_lq_w (σ := Wa) (lk_fx_up (lk_fx_up (lk_fx_rf _ _) (by decide)) (by decide)) (lk_lq_w fa hq)) (by omega) (by omega) (by omega) ga ba ra (fun x hx => by
                    simp only [lk_up, lk_rw]
                    by_cases c : x = i + j
                    · subst c; simp
                    · rw [if_neg (by simp [c]), if_neg c]
                      exact oa x (by omega))) ?_
              refine lk_k4 (fun W2 hW2 => ?_)
              refine lk_cast (pc' := 272) (S' := []) rfl rfl rfl ?_
              refine lk_sg (σ' := (lk_ms W2 V3 T)) rfl ?_
              refine lk_aload_n dX9_weaves_272 rfl rfl ?_
              refine lk_getR (f := 0) dX9_weaves_273 rfl fX9_9 (by decide) (by decide) ?_
              refine lk_bipush (v := 24) dX9_weaves_276 (by decide) ?_
              refine lk_iload_n dX9_weaves_278 rfl rfl ?_
              refine lk_iaddN (a := 24) (b := k) dX9_weaves_279 ?_
              refine lk_iload dX9_weaves_280 rfl ?_
              refine lk_iastN (f := 0) (i := 24 + k) (v := (V 6 (k))) dX9_weaves_282 rfl (by decide) rfl (by omega) (by decide) ?_
              refine lk_sg (σ' := (lk_ms W2 (lk_ou V3 6 (k) (V 6 (k))) T)) (lk_w6 (by omega) (by omega)) ?_
              refine lk_aload_n dX9_weaves_283 rfl rfl ?_
              refine lk_getR (f := 0) dX9_weaves_284 rfl fX9_9 (by decide) (by decide) ?_
              refine lk_bipush (v := 24) dX9_weaves_287 (by decide) ?_
              refine lk_iload_n dX9_weaves_289 rfl rfl ?_
              refine lk_iaddN (a := 24) (b := k) dX9_weaves_290 ?_
              refine lk_iconst (v := 1) dX9_weaves_291 (by decide) ?_
              refine lk_iaddN (a := 24 + k) (b := 1) dX9_weaves_292 ?_
              refine lk_iload dX9_weaves_293 rfl ?_
              refine lk_iastN (f := 0) (i := 24 + k + 1) (v := (V 6 (k + 1))) dX9_weaves_295 rfl (by decide) rfl (by omega) (by decide) ?_
              refine lk_sg (σ' := (lk_ms W2 (lk_ou (lk_ou V3 6 (k) (V 6 (k))) 6 (k + 1) (V 6 (k + 1))) T)) (lk_w6 (by omega) (by omega)) ?_
              refine lk_aload_n dX9_weaves_296 rfl rfl ?_
              refine lk_getR (f := 0) dX9_weaves_297 rfl fX9_9 (by decide) (by decide) ?_
              refine lk_bipush (v := 12) dX9_weaves_300 (by decide) ?_
              refine lk_iload_n dX9_weaves_302 rfl rfl ?_
              refine lk_iaddN (a := 12) (b := k) dX9_weaves_303 ?_
              refine lk_iload dX9_weaves_304 rfl ?_
              refine lk_iastN (f := 0) (i := 12 + k) (v := (V 4 (k))) dX9_weaves_306 rfl (by decide) rfl (by omega) (by decide) ?_
              refine lk_sg (σ' := (lk_ms W2 (lk_ou (lk_ou (lk_ou V3 6 (k) (V 6 (k))) 6 (k + 1) (V 6 (k + 1))) 4 (k) (V 4 (k))) T)) (lk_w4 (by omega) (by omega)) ?_
              refine lk_aload_n dX9_weaves_307 rfl rfl ?_
              refine lk_getR (f := 0) dX9_weaves_308 rfl fX9_9 (by decide) (by decide) ?_
              refine lk_bipush (v := 18) dX9_weaves_311 (by decide) ?_
              refine lk_iload_n dX9_weaves_313 rfl rfl ?_
              refine lk_iaddN (a := 18) (b := k) dX9_weaves_314 ?_
              refine lk_iload dX9_weaves_315 rfl ?_
              refine lk_iastN (f := 0) (i := 18 + k) (v := (V 5 (k))) dX9_weaves_317 rfl (by decide) rfl (by omega) (by decide) ?_
              refine lk_sg (σ' := (lk_ms W2 (lk_ou (lk_ou (lk_ou (lk_ou V3 6 (k) (V 6 (k))) 6 (k + 1) (V 6 (k + 1))) 4 (k) (V 4 (k))) 5 (k) (V 5 (k))) T)) (lk_w5 (by omega) (by omega)) ?_
              refine lk_sg (σ' := lk_ms W2 V T) (by rw [lk_near_back hnV3]) ?_
              have hE : lk_wvm (B 1) (lk_qb B nf k).2 (lk_qa B nf k).2 k bb aa (r + 1) i j so V a row = lk_wvm (B 1) (lk_qb B nf k).2 (lk_qa B nf k).2 k bb aa r i (j + 1) (so + (V 6 (k + 1) - V3 6 (k + 1))) V3 a1 (lk_rw row (i + j) (nI ((lk_qa B nf k).2 j))) := by
                rw [lk_wvm, ← ha1]
                show (if j < aa then _ else a1) = _
                rw [if_pos (show j < aa by omega), hp2] <;> rfl
              have hW9 : lk_wvP σ W2 (i + j) (lk_wvm (B 1) (lk_qb B nf k).2 (lk_qa B nf k).2 k bb aa (r + 1) i j so V a row) := ⟨(lk_fx_tr fa (lk_fx_tr (lk_fx_up (lk_fx_up (lk_fx_rf _ _) (by decide)) (by decide)) hW2.1)), fun x hx => ((hW2.2.1 x (by omega)).trans (by simp only [lk_up]; rw [if_neg (by simp; omega), if_neg (by simp)]; exact oa x hx)).trans (hro x hx).symm, by rw [hE]; exact hW2.2.2.1, by rw [hE]; exact hW2.2.2.2.1, fun x => by rw [hE]; exact hW2.2.2.2.2 x⟩
              obtain ⟨Wb, hWb⟩ : ∃ w : lk_N, w = W2 := ⟨_, rfl⟩
              refine lk_sg (σ' := lk_ms Wb V T) (by rw [hWb]) ?_
              rw [← hWb] at hW9
              refine lk_iincN (a := 1) (m := 1) (L' := [(0, lk_vr 1 0), (1, lk_vi (nI (k))), (2, lk_vi (nI (i))), (3, lk_vi (nI (j))), (4, lk_vi (so)), (5, lk_vi (V 6 (k))), (6, lk_vi (V 6 (k + 1))), (7, lk_vi (V 4 (k))), (8, lk_vi (V 5 (k))), (9, lk_vi (nI (1 + 1))), (10, lk_vi (nI ((lk_qa B nf k).2 j)))]) dX9_weaves_318 rfl rfl (by decide +kernel) rfl ?_
              refine lk_cast (L' := [(0, lk_vr 1 0), (1, lk_vi (nI (k))), (2, lk_vi (nI (i))), (3, lk_vi (nI (j))), (4, lk_vi (so)), (5, lk_vi (V 6 (k))), (6, lk_vi (V 6 (k + 1))), (7, lk_vi (V 4 (k))), (8, lk_vi (V 5 (k))), (9, lk_vi 2), (10, lk_vi (nI ((lk_qa B nf k).2 j)))]) rfl rfl rfl ?_
              refine lk_goto (tgt := 133) dX9_weaves_321 (by decide) ?_
              refine lk_iload dX9_weaves_133 rfl ?_
              refine lk_iconst (v := 2) dX9_weaves_135 (by decide) ?_
              refine lk_icmp_geN (a := 2) (b := 2) (tgt := 324) dX9_weaves_136 (by decide) (by omega) (by omega) (fun hh64 => ?_) (fun hh64 => absurd hh64 (by decide))
              refine lk_vret dX9_weaves_324 rfl ?_
              rw [hQ]
              exact ⟨rfl, rfl, Wb, rfl, hW9⟩
            ·
              refine lk_callV (o := 1) (as := [lk_vi (nI (k)), lk_vi 0, lk_vi (B 1 ((lk_qa B nf k).2 j))]) (S := []) dX9_weaves_220 rfl vX9_goes rfl lX9_140 rfl rfl (Nat.le_of_ble_eq_true rfl) (tX9_goes_dn_no l X d Wa τ (k := (k)) (z := (B 1 ((lk_qa B nf k).2 j))) (V := V) (T := T) (n := n) (hV := hV) (hr := hr) (hk := hk) (q := q2) (h := hp2)) ?_
              refine lk_k5 (fun s2 => ?_)
              refine lk_cast (pc' := 223) (S' := [lk_vi 0]) rfl rfl rfl ?_
              refine lk_sg (σ' := (lk_ms (lk_up (lk_bar Wa q2) 1 6 0 s2) V T)) rfl ?_
              refine lk_if_eq (tgt := 272) dX9_weaves_223 (by decide) (fun hh65 => ?_) (fun hh65 => absurd hh65 (by decide))
              refine lk_aload_n dX9_weaves_272 rfl rfl ?_
              refine lk_getR (f := 0) dX9_weaves_273 rfl fX9_9 (by decide) (by decide) ?_
              refine lk_bipush (v := 24) dX9_weaves_276 (by decide) ?_
              refine lk_iload_n dX9_weaves_278 rfl rfl ?_
              refine lk_iaddN (a := 24) (b := k) dX9_weaves_279 ?_
              refine lk_iload dX9_weaves_280 rfl ?_
              refine lk_iastN (f := 0) (i := 24 + k) (v := (V 6 (k))) dX9_weaves_282 rfl (by decide) rfl (by omega) (by decide) ?_
              refine lk_sg (σ' := (lk_ms (lk_up (lk_bar Wa q2) 1 6 0 s2) (lk_ou V 6 (k) (V 6 (k))) T)) (lk_w6 (by omega) (by omega)) ?_
              refine lk_aload_n dX9_weaves_283 rfl rfl ?_
              refine lk_getR (f := 0) dX9_weaves_284 rfl fX9_9 (by decide) (by decide) ?_
              refine lk_bipush (v := 24) dX9_weaves_287 (by decide) ?_
              refine lk_iload_n dX9_weaves_289 rfl rfl ?_
              refine lk_iaddN (a := 24) (b := k) dX9_weaves_290 ?_
              refine lk_iconst (v := 1) dX9_weaves_291 (by decide) ?_
              refine lk_iaddN (a := 24 + k) (b := 1) dX9_weaves_292 ?_
              refine lk_iload dX9_weaves_293 rfl ?_
              refine lk_iastN (f := 0) (i := 24 + k + 1) (v := (V 6 (k + 1))) dX9_weaves_295 rfl (by decide) rfl (by omega) (by decide) ?_
              refine lk_sg (σ' := (lk_ms (lk_up (lk_bar Wa q2) 1 6 0 s2) (lk_ou (lk_ou V 6 (k) (V 6 (k))) 6 (k + 1) (V 6 (k + 1))) T)) (lk_w6 (by omega) (by omega)) ?_
              refine lk_aload_n dX9_weaves_296 rfl rfl ?_
              refine lk_getR (f := 0) dX9_weaves_297 rfl fX9_9 (by decide) (by decide) ?_
              refine lk_bipush (v := 12) dX9_weaves_300 (by decide) ?_
              refine lk_iload_n dX9_weaves_302 rfl rfl ?_
              refine lk_iaddN (a := 12) (b := k) dX9_weaves_303 ?_
              refine lk_iload dX9_weaves_304 rfl ?_
              refine lk_iastN (f := 0) (i := 12 + k) (v := (V 4 (k))) dX9_weaves_306 rfl (by decide) rfl (by omega) (by decide) ?_
              refine lk_sg (σ' := (lk_ms (lk_up (lk_bar Wa q2) 1 6 0 s2) (lk_ou (lk_ou (lk_ou V 6 (k) (V 6 (k))) 6 (k + 1) (V 6 (k + 1))) 4 (k) (V 4 (k))) T)) (lk_w4 (by omega) (by omega)) ?_
              refine lk_aload_n dX9_weaves_307 rfl rfl ?_
              refine lk_getR (f := 0) dX9_weaves_308 rfl fX9_9 (by decide) (by decide) ?_
              refine lk_bipush (v := 18) dX9_weaves_311 (by decide) ?_
              refine lk_iload_n dX9_weaves_313 rfl rfl ?_
              refine lk_iaddN (a := 18) (b := k) dX9_weaves_314 ?_
              refine lk_iload dX9_weaves_315 rfl ?_
              refine lk_iastN (f := 0) (i := 18 + k) (v := (V 5 (k))) dX9_weaves_317 rfl (by decide) rfl (by omega) (by decide) ?_
              refine lk_sg (σ' := (lk_ms (lk_up (lk_bar Wa q2) 1 6 0 s2) (lk_ou (lk_ou (lk_ou (lk_ou V 6 (k) (V 6 (k))) 6 (k + 1) (V 6 (k + 1))) 4 (k) (V 4 (k))) 5 (k) (V 5 (k))) T)) (lk_w5 (by omega) (by omega)) ?_
              refine lk_sg (σ' := lk_ms (lk_up (lk_bar Wa q2) 1 6 0 s2) V T) (by rw [lk_near_back (lk_near_rf V k)]) ?_
              have hE : lk_wvm (B 1) (lk_qb B nf k).2 (lk_qa B nf k).2 k bb aa (r + 1) i j so V a row = a1 := by
                rw [lk_wvm, ← ha1]
                show (if j < aa then _ else a1) = _
                rw [if_pos (show j < aa by omega), hp2] <;> rfl
              have hW9 : lk_wvP σ (lk_up (lk_bar Wa q2) 1 6 0 s2) (i + j) (lk_wvm (B 1) (lk_qb B nf k).2 (lk_qa B nf k).2 k bb aa (r + 1) i j so V a row) := ⟨(lk_fx_up (lk_fx_bar fa (by decide) (by decide) (by decide)) (by decide)), fun x hx => (oa x hx).trans (hro x hx).symm, by rw [hE]; exact ga, by rw [hE]; exact ba, fun x => by rw [hE]; exact ra x⟩
              obtain ⟨Wb, hWb⟩ : ∃ w : lk_N, w = (lk_up (lk_bar Wa q2) 1 6 0 s2) := ⟨_, rfl⟩
              refine lk_sg (σ' := lk_ms Wb V T) (by rw [hWb]) ?_
              rw [← hWb] at hW9
              refine lk_iincN (a := 1) (m := 1) (L' := [(0, lk_vr 1 0), (1, lk_vi (nI (k))), (2, lk_vi (nI (i))), (3, lk_vi (nI (j))), (4, lk_vi (so)), (5, lk_vi (V 6 (k))), (6, lk_vi (V 6 (k + 1))), (7, lk_vi (V 4 (k))), (8, lk_vi (V 5 (k))), (9, lk_vi (nI (1 + 1))), (10, lk_vi (nI ((lk_qa B nf k).2 j)))]) dX9_weaves_318 rfl rfl (by decide +kernel) rfl ?_
              refine lk_cast (L' := [(0, lk_vr 1 0), (1, lk_vi (nI (k))), (2, lk_vi (nI (i))), (3, lk_vi (nI (j))), (4, lk_vi (so)), (5, lk_vi (V 6 (k))), (6, lk_vi (V 6 (k + 1))), (7, lk_vi (V 4 (k))), (8, lk_vi (V 5 (k))), (9, lk_vi 2), (10, lk_vi (nI ((lk_qa B nf k).2 j)))]) rfl rfl rfl ?_
              refine lk_goto (tgt := 133) dX9_weaves_321 (by decide) ?_
              refine lk_iload dX9_weaves_133 rfl ?_
              refine lk_iconst (v := 2) dX9_weaves_135 (by decide) ?_
              refine lk_icmp_geN (a := 2) (b := 2) (tgt := 324) dX9_weaves_136 (by decide) (by omega) (by omega) (fun hh66 => ?_) (fun hh66 => absurd hh66 (by decide))
              refine lk_vret dX9_weaves_324 rfl ?_
              rw [hQ]
              exact ⟨rfl, rfl, Wb, rfl, hW9⟩
          ·
            refine lk_goto (tgt := 318) dX9_weaves_173 (by decide) ?_
            have hE : lk_wvm (B 1) (lk_qb B nf k).2 (lk_qa B nf k).2 k bb aa (r + 1) i j so V a row = a1 := by
              rw [lk_wvm, ← ha1]
              show (if j < aa then _ else a1) = _
              rw [if_neg (show ¬ j < aa by omega)] <;> rfl
            have hW9 : lk_wvP σ Wa (i + j) (lk_wvm (B 1) (lk_qb B nf k).2 (lk_qa B nf k).2 k bb aa (r + 1) i j so V a row) := ⟨fa, fun x hx => (oa x hx).trans (hro x hx).symm, by rw [hE]; exact ga, by rw [hE]; exact ba, fun x => by rw [hE]; exact ra x⟩
            obtain ⟨Wb, hWb⟩ : ∃ w : lk_N, w = Wa := ⟨_, rfl⟩
            refine lk_sg (σ' := lk_ms Wb V T) (by rw [hWb]) ?_
            rw [← hWb] at hW9
            refine lk_iincN (a := 1) (m := 1) (L' := [(0, lk_vr 1 0), (1, lk_vi (nI (k))), (2, lk_vi (nI (i))), (3, lk_vi (nI (j))), (4, lk_vi (so)), (5, lk_vi (V 6 (k))), (6, lk_vi (V 6 (k + 1))), (7, lk_vi (V 4 (k))), (8, lk_vi (V 5 (k))), (9, lk_vi (nI (1 + 1))), (10, lk_vi (nI ((lk_qb B nf k).2 i)))]) dX9_weaves_318 rfl rfl (by decide +kernel) rfl ?_
            refine lk_cast (L' := [(0, lk_vr 1 0), (1, lk_vi (nI (k))), (2, lk_vi (nI (i))), (3, lk_vi (nI (j))), (4, lk_vi (so)), (5, lk_vi (V 6 (k))), (6, lk_vi (V 6 (k + 1))), (7, lk_vi (V 4 (k))), (8, lk_vi (V 5 (k))), (9, lk_vi 2), (10, lk_vi (nI ((lk_qb B nf k).2 i)))]) rfl rfl rfl ?_
            refine lk_goto (tgt := 133) dX9_weaves_321 (by decide) ?_
            refine lk_iload dX9_weaves_133 rfl ?_
            refine lk_iconst (v := 2) dX9_weaves_135 (by decide) ?_
            refine lk_icmp_geN (a := 2) (b := 2) (tgt := 324) dX9_weaves_136 (by decide) (by omega) (by omega) (fun hh67 => ?_) (fun hh67 => absurd hh67 (by decide))
            refine lk_vret dX9_weaves_324 rfl ?_
            rw [hQ]
            exact ⟨rfl, rfl, Wb, rfl, hW9⟩
        ·
          refine lk_callV (o := 1) (as := [lk_vi (nI (k)), lk_vi 1, lk_vi (B 1 ((lk_qb B nf k).2 i))]) (S := []) dX9_weaves_220 rfl vX9_goes rfl lX9_140 rfl rfl (Nat.le_of_ble_eq_true rfl) (tX9_goes_up_no l X d σ τ (k := (k)) (z := (B 1 ((lk_qb B nf k).2 i))) (V := V) (T := T) (n := n) (hV := hV) (hr := hr) (hk := hk) (q := q) (h := hp)) ?_
          refine lk_k5 (fun s1 => ?_)
          refine lk_cast (pc' := 223) (S' := [lk_vi 0]) rfl rfl rfl ?_
          refine lk_sg (σ' := (lk_ms (lk_up (lk_bar σ q) 1 6 0 s1) V T)) rfl ?_
          refine lk_if_eq (tgt := 272) dX9_weaves_223 (by decide) (fun hh68 => ?_) (fun hh68 => absurd hh68 (by decide))
          refine lk_aload_n dX9_weaves_272 rfl rfl ?_
          refine lk_getR (f := 0) dX9_weaves_273 rfl fX9_9 (by decide) (by decide) ?_
          refine lk_bipush (v := 24) dX9_weaves_276 (by decide) ?_
          refine lk_iload_n dX9_weaves_278 rfl rfl ?_
          refine lk_iaddN (a := 24) (b := k) dX9_weaves_279 ?_
          refine lk_iload dX9_weaves_280 rfl ?_
          refine lk_iastN (f := 0) (i := 24 + k) (v := (V 6 (k))) dX9_weaves_282 rfl (by decide) rfl (by omega) (by decide) ?_
          refine lk_sg (σ' := (lk_ms (lk_up (lk_bar σ q) 1 6 0 s1) (lk_ou V 6 (k) (V 6 (k))) T)) (lk_w6 (by omega) (by omega)) ?_
          refine lk_aload_n dX9_weaves_283 rfl rfl ?_
          refine lk_getR (f := 0) dX9_weaves_284 rfl fX9_9 (by decide) (by decide) ?_
          refine lk_bipush (v := 24) dX9_weaves_287 (by decide) ?_
          refine lk_iload_n dX9_weaves_289 rfl rfl ?_
          refine lk_iaddN (a := 24) (b := k) dX9_weaves_290 ?_
          refine lk_iconst (v := 1) dX9_weaves_291 (by decide) ?_
          refine lk_iaddN (a := 24 + k) (b := 1) dX9_weaves_292 ?_
          refine lk_iload dX9_weaves_293 rfl ?_
          refine lk_iastN (f := 0) (i := 24 + k + 1) (v := (V 6 (k + 1))) dX9_weaves_295 rfl (by decide) rfl (by omega) (by decide) ?_
          refine lk_sg (σ' := (lk_ms (lk_up (lk_bar σ q) 1 6 0 s1) (lk_ou (lk_ou V 6 (k) (V 6 (k))) 6 (k + 1) (V 6 (k + 1))) T)) (lk_w6 (by omega) (by omega)) ?_
          refine lk_aload_n dX9_weaves_296 rfl rfl ?_
          refine lk_getR (f := 0) dX9_weaves_297 rfl fX9_9 (by decide) (by decide) ?_
          refine lk_bipush (v := 12) dX9_weaves_300 (by decide) ?_
          refine lk_iload_n dX9_weaves_302 rfl rfl ?_
          refine lk_iaddN (a := 12) (b := k) dX9_weaves_303 ?_
          refine lk_iload dX9_weaves_304 rfl ?_
          refine lk_iastN (f := 0) (i := 12 + k) (v := (V 4 (k))) dX9_weaves_306 rfl (by decide) rfl (by omega) (by decide) ?_
          refine lk_sg (σ' := (lk_ms (lk_up (lk_bar σ q) 1 6 0 s1) (lk_ou (lk_ou (lk_ou V 6 (k) (V 6 (k))) 6 (k + 1) (V 6 (k + 1))) 4 (k) (V 4 (k))) T)) (lk_w4 (by omega) (by omega)) ?_
          refine lk_aload_n dX9_weaves_307 rfl rfl ?_
          refine lk_getR (f := 0) dX9_weaves_308 rfl fX9_9 (by decide) (by decide) ?_
          refine lk_bipush (v := 18) dX9_weaves_311 (by decide) ?_
          refine lk_iload_n dX9_weaves_313 rfl rfl ?_
          refine lk_iaddN (a := 18) (b := k) dX9_weaves_314 ?_
          refine lk_iload dX9_weaves_315 rfl ?_
          refine lk_iastN (f := 0) (i := 18 + k) (v := (V 5 (k))) dX9_weaves_317 rfl (by decide) rfl (by omega) (by decide) ?_
          refine lk_sg (σ' := (lk_ms (lk_up (lk_bar σ q) 1 6 0 s1) (lk_ou (lk_ou (lk_ou (lk_ou V 6 (k) (V 6 (k))) 6 (k + 1) (V 6 (k + 1))) 4 (k) (V 4 (k))) 5 (k) (V 5 (k))) T)) (lk_w5 (by omega) (by omega)) ?_
          refine lk_sg (σ' := lk_ms (lk_up (lk_bar σ q) 1 6 0 s1) V T) (by rw [lk_near_back (lk_near_rf V k)]) ?_
          obtain ⟨a1, ha1⟩ : ∃ a1 : lk_a, a1 = (if i < bb then lk_mt (lk_pas V k true (B 1 ((lk_qb B nf k).2 i))) (fun V' => lk_wvm (B 1) (lk_qb B nf k).2 (lk_qa B nf k).2 k bb aa r (i + 1) j (so + (V 6 (k + 1) - V' 6 (k + 1))) V' a (lk_rw row (i + j) (nI ((lk_qb B nf k).2 i)))) a else a) := ⟨_, rfl⟩
          have ha2 := ha1
          rw [if_pos (show i < bb by omega), hp] at ha2
          have hA : lk_fx [6, 7, 8, 9, 25, 26, 27, 28] σ (lk_up (lk_bar σ q) 1 6 0 s1) ∧ (∀ x, x < i + j → (lk_up (lk_bar σ q) 1 6 0 s1) 1 27 x = row x) ∧ (lk_up (lk_bar σ q) 1 6 0 s1) 1 25 0 = nI a1.1 ∧ (lk_up (lk_bar σ q) 1 6 0 s1) 1 26 0 = a1.2.1 ∧ ∀ x, (lk_up (lk_bar σ q) 1 6 0 s1) 1 28 x = a1.2.2 x := ⟨(lk_fx_up (lk_fx_bar (lk_fx_rf _ _) (by decide) (by decide) (by decide)) (by decide)), fun x hx => hro x hx, by rw [ha2]; exact hg, by rw [ha2]; exact hb, fun x => by rw [ha2]; exact hrw x⟩
          obtain ⟨Wa, hWa, fa, oa, ga, ba, ra⟩ : ∃ w : lk_N, w = (lk_up (lk_bar σ q) 1 6 0 s1) ∧ (lk_fx [6, 7, 8, 9, 25, 26, 27, 28] σ w ∧ (∀ x, x < i + j → w 1 27 x = row x) ∧ w 1 25 0 = nI a1.1 ∧ w 1 26 0 = a1.2.1 ∧ ∀ x, w 1 28 x = a1.2.2 x) := ⟨_, rfl, hA⟩
          refine lk_sg (σ' := lk_ms Wa V T) (by rw [hWa]) ?_
          clear hWa hA
          refine lk_iincN (a := 0) (m := 1) (L' := [(0, lk_vr 1 0), (1, lk_vi (nI (k))), (2, lk_vi (nI (i))), (3, lk_vi (nI (j))), (4, lk_vi (so)), (5, lk_vi (V 6 (k))), (6, lk_vi (V 6 (k + 1))), (7, lk_vi (V 4 (k))), (8, lk_vi (V 5 (k))), (9, lk_vi (nI (0 + 1))), (10, lk_vi (nI ((lk_qb B nf k).2 i)))]) dX9_weaves_318 rfl rfl (by decide +kernel) rfl ?_
          refine lk_cast (L' := [(0, lk_vr 1 0), (1, lk_vi (nI (k))), (2, lk_vi (nI (i))), (3, lk_vi (nI (j))), (4, lk_vi (so)), (5, lk_vi (V 6 (k))), (6, lk_vi (V 6 (k + 1))), (7, lk_vi (V 4 (k))), (8, lk_vi (V 5 (k))), (9, lk_vi 1), (10, lk_vi (nI ((lk_qb B nf k).2 i)))]) rfl rfl rfl ?_
          refine lk_goto (tgt := 133) dX9_weaves_321 (by decide) ?_
          refine lk_iload dX9_weaves_133 rfl ?_
          refine lk_iconst (v := 2) dX9_weaves_135 (by decide) ?_
          refine lk_icmp_geN (a := 1) (b := 2) (tgt := 324) dX9_weaves_136 (by decide) (by omega) (by omega) (fun hh69 => absurd hh69 (by decide)) (fun hh69 => ?_)
          refine lk_iload dX9_weaves_139 rfl ?_
          refine lk_if_ne (tgt := 160) dX9_weaves_141 (by decide) (fun hh70 => ?_) (fun hh70 => absurd hh70 (by decide))
          refine lk_iload_n dX9_weaves_160 rfl rfl ?_
          refine lk_bipush (v := 6) dX9_weaves_161 (by decide) ?_
          refine lk_aload_n dX9_weaves_163 rfl rfl ?_
          refine lk_getIv (v := (nI ((lk_qa B nf k).1))) (f := 19) dX9_weaves_164 rfl fX9_171 (by decide) (by decide) ((lk_rf (by decide)).trans (lk_lq_w fa hq).2.1) ?_
          refine lk_mmin dX9_weaves_167 lX9_177 (Nat.le_of_ble_eq_true rfl) ?_
          refine lk_eqtop (y := (nI (aa))) (by rw [haa]; exact lk_min6m (by omega)) ?_
          refine lk_icmp_neN (a := j) (b := aa) (tgt := 176) dX9_weaves_170 (by decide) (by omega) (by omega) (fun hh71 => ?_) (fun hh71 => ?_)
          ·
            refine lk_iload dX9_weaves_176 rfl ?_
            refine lk_if_ne (tgt := 190) dX9_weaves_178 (by decide) (fun hh72 => ?_) (fun hh72 => absurd hh72 (by decide))
            refine lk_aload_n dX9_weaves_190 rfl rfl ?_
            refine lk_getR (f := 21) dX9_weaves_191 rfl fX9_33 (by decide) (by decide) ?_
            refine lk_iload_n dX9_weaves_194 rfl rfl ?_
            refine lk_ialdN (f := 21) (i := j) dX9_weaves_195 rfl (by decide) rfl (by omega) (by decide) ?_
            refine lk_eqtop (y := (nI ((lk_qa B nf k).2 j))) ((lk_rf (by decide)).trans ((lk_lq_w fa hq).2.2.2 j (by omega))) ?_
            refine lk_istore (L' := [(0, lk_vr 1 0), (1, lk_vi (nI (k))), (2, lk_vi (nI (i))), (3, lk_vi (nI (j))), (4, lk_vi (so)), (5, lk_vi (V 6 (k))), (6, lk_vi (V 6 (k + 1))), (7, lk_vi (V 4 (k))), (8, lk_vi (V 5 (k))), (9, lk_vi 1), (10, lk_vi (nI ((lk_qa B nf k).2 j)))]) dX9_weaves_196 (by decide +kernel) rfl ?_
            have hql : ((lk_qa B nf k).2 j) < nf := lk_gat_lt B (nI (k + 1)) 0 nf j (show j < (lk_qa B nf k).1 by omega)
            refine lk_aload_n dX9_weaves_198 rfl rfl ?_
            refine lk_iload_n dX9_weaves_199 rfl rfl ?_
            refine lk_iload dX9_weaves_200 rfl ?_
            refine lk_if_ne (tgt := 209) dX9_weaves_202 (by decide) (fun hh73 => ?_) (fun hh73 => absurd hh73 (by decide))
            refine lk_iconst (v := 0) dX9_weaves_209 (by decide) ?_
            refine lk_aload_n dX9_weaves_210 rfl rfl ?_
            refine lk_getR (f := 0) dX9_weaves_211 rfl fX9_9 (by decide) (by decide) ?_
            refine lk_bipush (v := 66) dX9_weaves_214 (by decide) ?_
            refine lk_iload dX9_weaves_216 rfl ?_
            refine lk_iaddN (a := 66) (b := (lk_qa B nf k).2 j) dX9_weaves_218 ?_
            refine lk_ialdN (f := 0) (i := 66 + (lk_qa B nf k).2 j) dX9_weaves_219 rfl (by decide) rfl (by omega) (by decide) ?_
            refine lk_eqtop (y := (B 1 ((lk_qa B nf k).2 j))) ((lk_rB (by omega)).trans ((lk_bv_w fa hB) _ hql).2.1) ?_
            rcases hp2 : lk_pas V k false (B 1 ((lk_qa B nf k).2 j)) with V3 | q2
            ·
              have hnV3 := (lk_pas_ok hp2 (hV.2.2.2 k hk6) (hz _ hql).1 (hz _ hql).2).1
              refine lk_callV (o := 1) (as := [lk_vi (nI (k)), lk_vi 0, lk_vi (B 1 ((lk_qa B nf k).2 j))]) (S := []) dX9_weaves_220 rfl vX9_goes rfl lX9_140 rfl rfl (Nat.le_of_ble_eq_true rfl) (tX9_goes_dn_ok l X d Wa τ (k := (k)) (z := (B 1 ((lk_qa B nf k).2 j))) (V := V) (T := T) (n := n) (hV := hV) (hr := hr) (hk := hk) (W := V3) (h := hp2)) ?_
              refine lk_k3 ?_
              refine lk_cast (pc' := 223) (S' := [lk_vi 1]) rfl rfl rfl ?_
              refine lk_if_eq (tgt := 272) dX9_weaves_223 (by decide) (fun hh74 => absurd hh74 (by decide)) (fun hh74 => ?_)
              refine lk_aload_n dX9_weaves_226 rfl rfl ?_
              refine lk_getR (f := 27) dX9_weaves_227 rfl fX9_36 (by decide) (by decide) ?_
              refine lk_iload_n dX9_weaves_230 rfl rfl ?_
              refine lk_iload_n dX9_weaves_231 rfl rfl ?_
              refine lk_iaddN (a := i) (b := j) dX9_weaves_232 ?_
              refine lk_iload dX9_weaves_233 rfl ?_
              refine lk_iastN (f := 27) (i := i + j) (v := (nI ((lk_qa B nf k).2 j))) dX9_weaves_235 rfl (by decide) rfl (by omega) (by decide) ?_
              refine lk_sg (σ' := (lk_ms (lk_up (lk_up Wa 1 6 0 (V 6 (k + 1) - V3 6 (k + 1))) 1 27 (i + j) (nI ((lk_qa B nf k).2 j))) V3 T)) (lk_wf (by decide)) ?_
              refine lk_aload_n dX9_weaves_236 rfl rfl ?_
              refine lk_iload_n dX9_weaves_237 rfl rfl ?_
              refine lk_iload dX9_weaves_238 rfl ?_
              refine lk_if_ne (tgt := 249) dX9_weaves_240 (by decide) (fun hh75 => ?_) (fun hh75 => absurd hh75 (by decide))
              refine lk_iload_n dX9_weaves_249 rfl rfl ?_
              refine lk_iload dX9_weaves_250 rfl ?_
              refine lk_if_ne (tgt := 259) dX9_weaves_252 (by decide) (fun hh76 => ?_) (fun hh76 => absurd hh76 (by decide))
              refine lk_iload_n dX9_weaves_259 rfl rfl ?_
              refine lk_iconst (v := 1) dX9_weaves_260 (by decide) ?_
              refine lk_iaddN (a := j) (b := 1) dX9_weaves_261 ?_
              refine lk_iload dX9_weaves_262 rfl ?_
              refine lk_aload_n dX9_weaves_264 rfl rfl ?_
              refine lk_getIv (v := ((V 6 (k + 1) - V3 6 (k + 1)))) (f := 6) dX9_weaves_265 rfl fX9_137 (by decide) (by decide) ((lk_rf (by decide)).trans rfl) ?_
              refine lk_iadd dX9_weaves_268 ?_
              refine lk_callV (o := 1) (as := [lk_vi (nI (k)), lk_vi (nI (i)), lk_vi (nI (j + 1)), lk_vi ((so) + ((V 6 (k + 1) - V3 6 (k + 1))))]) (S := []) dX9_weaves_269 rfl vX9_weaves rfl lX9_188 rfl rfl (Nat.le_of_ble_eq_true rfl) (ihw (lk_up (lk_up Wa 1 6 0 (V 6 (k + 1) - V3 6 (k + 1))) 1 27 (i + j) (nI ((lk_qa B nf k).2 j))) V3 i (j + 1) (((so) + ((V 6 (k + 1) - V3 6 (k + 1))))) a1 (lk_rw row (i + j) (nI ((lk_qa B nf k).2 j))) (lk_pas_cok hp2 hk hV (hz _ hql).1 (hz _ hql).2) (lk_pas_rok hr hk6 hp2) (lk_bv_w (σ := Wa) (lk_fx_up (lk_fx_up (lk_fx_rf _ _) (by decide)) (by decide)) (lk_bv_w fa hB)) (lk_lq_w (σ := Wa) (lk_fx_up (lk_fx_up (lk_fx_rf _ _) (by decide)) (by decide)) (lk_lq_w fa hq)) (by omega) (by omega) (by omega) ga ba ra (fun x hx => by
                    simp only [lk_up, lk_rw]
                    by_cases c : x = i + j
                    · subst c; simp
                    · rw [if_neg (by simp [c]), if_neg c]
                      exact oa x (by omega))) ?_
              refine lk_k4 (fun W2 hW2 => ?_)
              refine lk_cast (pc' := 272) (S' := []) rfl rfl rfl ?_
              refine lk_sg (σ' := (lk_ms W2 V3 T)) rfl ?_
              refine lk_aload_n dX9_weaves_272 rfl rfl ?_
              refine lk_getR (f := 0) dX9_weaves_273 rfl fX9_9 (by decide) (by decide) ?_
              refine lk_bipush (v := 24) dX9_weaves_276 (by decide) ?_
              refine lk_iload_n dX9_weaves_278 rfl rfl ?_
              refine lk_iaddN (a := 24) (b := k) dX9_weaves_279 ?_
              refine lk_iload dX9_weaves_280 rfl ?_
              refine lk_iastN (f := 0) (i := 24 + k) (v := (V 6 (k))) dX9_weaves_282 rfl (by decide) rfl (by omega) (by decide) ?_
              refine lk_sg (σ' := (lk_ms W2 (lk_ou V3 6 (k) (V 6 (k))) T)) (lk_w6 (by omega) (by omega)) ?_
              refine lk_aload_n dX9_weaves_283 rfl rfl ?_
              refine lk_getR (f := 0) dX9_weaves_284 rfl fX9_9 (by decide) (by decide) ?_
              refine lk_bipush (v := 24) dX9_weaves_287 (by decide) ?_
              refine lk_iload_n dX9_weaves_289 rfl rfl ?_
              refine lk_iaddN (a := 24) (b := k) dX9_weaves_290 ?_
              refine lk_iconst (v := 1) dX9_weaves_291 (by decide) ?_
              refine lk_iaddN (a := 24 + k) (b := 1) dX9_weaves_292 ?_
              refine lk_iload dX9_weaves_293 rfl ?_
              refine lk_iastN (f := 0) (i := 24 + k + 1) (v := (V 6 (k + 1))) dX9_weaves_295 rfl (by decide) rfl (by omega) (by decide) ?_
              refine lk_sg (σ' := (lk_ms W2 (lk_ou (lk_ou V3 6 (k) (V 6 (k))) 6 (k + 1) (V 6 (k + 1))) T)) (lk_w6 (by omega) (by omega)) ?_
              refine lk_aload_n dX9_weaves_296 rfl rfl ?_
              refine lk_getR (f := 0) dX9_weaves_297 rfl fX9_9 (by decide) (by decide) ?_
              refine lk_bipush (v := 12) dX9_weaves_300 (by decide) ?_
              refine lk_iload_n dX9_weaves_302 rfl rfl ?_
              refine lk_iaddN (a := 12) (b := k) dX9_weaves_303 ?_
              refine lk_iload dX9_weaves_304 rfl ?_
              refine lk_iastN (f := 0) (i := 12 + k) (v := (V 4 (k))) dX9_weaves_306 rfl (by decide) rfl (by omega) (by decide) ?_
              refine lk_sg (σ' := (lk_ms W2 (lk_ou (lk_ou (lk_ou V3 6 (k) (V 6 (k))) 6 (k + 1) (V 6 (k + 1))) 4 (k) (V 4 (k))) T)) (lk_w4 (by omega) (by omega)) ?_
              refine lk_aload_n dX9_weaves_307 rfl rfl ?_
              refine lk_getR (f := 0) dX9_weaves_308 rfl fX9_9 (by decide) (by decide) ?_
              refine lk_bipush (v := 18) dX9_weaves_311 (by decide) ?_
              refine lk_iload_n dX9_weaves_313 rfl rfl ?_
              refine lk_iaddN (a := 18) (b := k) dX9_weaves_314 ?_
              refine lk_iload dX9_weaves_315 rfl ?_
              refine lk_iastN (f := 0) (i := 18 + k) (v := (V 5 (k))) dX9_weaves_317 rfl (by decide) rfl (by omega) (by decide) ?_
              refine lk_sg (σ' := (lk_ms W2 (lk_ou (lk_ou (lk_ou (lk_ou V3 6 (k) (V 6 (k))) 6 (k + 1) (V 6 (k + 1))) 4 (k) (V 4 (k))) 5 (k) (V 5 (k))) T)) (lk_w5 (by omega) (by omega)) ?_
              refine lk_sg (σ' := lk_ms W2 V T) (by rw [lk_near_back hnV3]) ?_
              have hE : lk_wvm (B 1) (lk_qb B nf k).2 (lk_qa B nf k).2 k bb aa (r + 1) i j so V a row = lk_wvm (B 1) (lk_qb B nf k).2 (lk_qa B nf k).2 k bb aa r i (j + 1) (so + (V 6 (k + 1) - V3 6 (k + 1))) V3 a1 (lk_rw row (i + j) (nI ((lk_qa B nf k).2 j))) := by
                rw [lk_wvm, ← ha1]
                show (if j < aa then _ else a1) = _
                rw [if_pos (show j < aa by omega), hp2] <;> rfl
              have hW9 : lk_wvP σ W2 (i + j) (lk_wvm (B 1) (lk_qb B nf k).2 (lk_qa B nf k).2 k bb aa (r + 1) i j so V a row) := ⟨(lk_fx_tr fa (lk_fx_tr (lk_fx_up (lk_fx_up (lk_fx_rf _ _) (by decide)) (by decide)) hW2.1)), fun x hx => ((hW2.2.1 x (by omega)).trans (by simp only [lk_up]; rw [if_neg (by simp; omega), if_neg (by simp)]; exact oa x hx)).trans (hro x hx).symm, by rw [hE]; exact hW2.2.2.1, by rw [hE]; exact hW2.2.2.2.1, fun x => by rw [hE]; exact hW2.2.2.2.2 x⟩
              obtain ⟨Wb, hWb⟩ : ∃ w : lk_N, w = W2 := ⟨_, rfl⟩
              refine lk_sg (σ' := lk_ms Wb V T) (by rw [hWb]) ?_
              rw [← hWb] at hW9
              refine lk_iincN (a := 1) (m := 1) (L' := [(0, lk_vr 1 0), (1, lk_vi (nI (k))), (2, lk_vi (nI (i))), (3, lk_vi (nI (j))), (4, lk_vi (so)), (5, lk_vi (V 6 (k))), (6, lk_vi (V 6 (k + 1))), (7, lk_vi (V 4 (k))), (8, lk_vi (V 5 (k))), (9, lk_vi (nI (1 + 1))), (10, lk_vi (nI ((lk_qa B nf k).2 j)))]) dX9_weaves_318 rfl rfl (by decide +kernel) rfl ?_
              refine lk_cast (L' := [(0, lk_vr 1 0), (1, lk_vi (nI (k))), (2, lk_vi (nI (i))), (3, lk_vi (nI (j))), (4, lk_vi (so)), (5, lk_vi (V 6 (k))), (6, lk_vi (V 6 (k + 1))), (7, lk_vi (V 4 (k))), (8, lk_vi (V 5 (k))), (9, lk_vi 2), (10, lk_vi (nI ((lk_qa B nf k).2 j)))]) rfl rfl rfl ?_
              refine lk_goto (tgt := 133) dX9_weaves_321 (by decide) ?_
              refine lk_iload dX9_weaves_133 rfl ?_
              refine lk_iconst (v := 2) dX9_weaves_135 (by decide) ?_
              refine lk_icmp_geN (a := 2) (b := 2) (tgt := 324) dX9_weaves_136 (by decide) (by omega) (by omega) (fun hh77 => ?_) (fun hh77 => absurd hh77 (by decide))
              refine lk_vret dX9_weaves_324 rfl ?_
              rw [hQ]
              exact ⟨rfl, rfl, Wb, rfl, hW9⟩
            ·
              refine lk_callV (o := 1) (as := [lk_vi (nI (k)), lk_vi 0, lk_vi (B 1 ((lk_qa B nf k).2 j))]) (S := []) dX9_weaves_220 rfl vX9_goes rfl lX9_140 rfl rfl (Nat.le_of_ble_eq_true rfl) (tX9_goes_dn_no l X d Wa τ (k := (k)) (z := (B 1 ((lk_qa B nf k).2 j))) (V := V) (T := T) (n := n) (hV := hV) (hr := hr) (hk := hk) (q := q2) (h := hp2)) ?_
              refine lk_k5 (fun s2 => ?_)
              refine lk_cast (pc' := 223) (S' := [lk_vi 0]) rfl rfl rfl ?_
              refine lk_sg (σ' := (lk_ms (lk_up (lk_bar Wa q2) 1 6 0 s2) V T)) rfl ?_
              refine lk_if_eq (tgt := 272) dX9_weaves_223 (by decide) (fun hh78 => ?_) (fun hh78 => absurd hh78 (by decide))
              refine lk_aload_n dX9_weaves_272 rfl rfl ?_
              refine lk_getR (f := 0) dX9_weaves_273 rfl fX9_9 (by decide) (by decide) ?_
              refine lk_bipush (v := 24) dX9_weaves_276 (by decide) ?_
              refine lk_iload_n dX9_weaves_278 rfl rfl ?_
              refine lk_iaddN (a := 24) (b := k) dX9_weaves_279 ?_
              refine lk_iload dX9_weaves_280 rfl ?_
              refine lk_iastN (f := 0) (i := 24 + k) (v := (V 6 (k))) dX9_weaves_282 rfl (by decide) rfl (by omega) (by decide) ?_
              refine lk_sg (σ' := (lk_ms (lk_up (lk_bar Wa q2) 1 6 0 s2) (lk_ou V 6 (k) (V 6 (k))) T)) (lk_w6 (by omega) (by omega)) ?_
              refine lk_aload_n dX9_weaves_283 rfl rfl ?_
              refine lk_getR (f := 0) dX9_weaves_284 rfl fX9_9 (by decide) (by decide) ?_
              refine lk_bipush (v := 24) dX9_weaves_287 (by decide) ?_
              refine lk_iload_n dX9_weaves_289 rfl rfl ?_
              refine lk_iaddN (a := 24) (b := k) dX9_weaves_290 ?_
              refine lk_iconst (v := 1) dX9_weaves_291 (by decide) ?_
              refine lk_iaddN (a := 24 + k) (b := 1) dX9_weaves_292 ?_
              refine lk_iload dX9_weaves_293 rfl ?_
              refine lk_iastN (f := 0) (i := 24 + k + 1) (v := (V 6 (k + 1))) dX9_weaves_295 rfl (by decide) rfl (by omega) (by decide) ?_
              refine lk_sg (σ' := (lk_ms (lk_up (lk_bar Wa q2) 1 6 0 s2) (lk_ou (lk_ou V 6 (k) (V 6 (k))) 6 (k + 1) (V 6 (k + 1))) T)) (lk_w6 (by omega) (by omega)) ?_
              refine lk_aload_n dX9_weaves_296 rfl rfl ?_
              refine lk_getR (f := 0) dX9_weaves_297 rfl fX9_9 (by decide) (by decide) ?_
              refine lk_bipush (v := 12) dX9_weaves_300 (by decide) ?_
              refine lk_iload_n dX9_weaves_302 rfl rfl ?_
              refine lk_iaddN (a := 12) (b := k) dX9_weaves_303 ?_
              refine lk_iload dX9_weaves_304 rfl ?_
              refine lk_iastN (f := 0) (i := 12 + k) (v := (V 4 (k))) dX9_weaves_306 rfl (by decide) rfl (by omega) (by decide) ?_
              refine lk_sg (σ' := (lk_ms (lk_up (lk_bar Wa q2) 1 6 0 s2) (lk_ou (lk_ou (lk_ou V 6 (k) (V 6 (k))) 6 (k + 1) (V 6 (k + 1))) 4 (k) (V 4 (k))) T)) (lk_w4 (by omega) (by omega)) ?_
              refine lk_aload_n dX9_weaves_307 rfl rfl ?_
              refine lk_getR (f := 0) dX9_weaves_308 rfl fX9_9 (by decide) (by decide) ?_
              refine lk_bipush (v := 18) dX9_weaves_311 (by decide) ?_
              refine lk_iload_n dX9_weaves_313 rfl rfl ?_
              refine lk_iaddN (a := 18) (b := k) dX9_weaves_314 ?_
              refine lk_iload dX9_weaves_315 rfl ?_
              refine lk_iastN (f := 0) (i := 18 + k) (v := (V 5 (k))) dX9_weaves_317 rfl (by decide) rfl (by omega) (by decide) ?_
              refine lk_sg (σ' := (lk_ms (lk_up (lk_bar Wa q2) 1 6 0 s2) (lk_ou (lk_ou (lk_ou (lk_ou V 6 (k) (V 6 (k))) 6 (k + 1) (V 6 (k + 1))) 4 (k) (V 4 (k))) 5 (k) (V 5 (k))) T)) (lk_w5 (by omega) (by omega)) ?_
              refine lk_sg (σ' := lk_ms (lk_up (lk_bar Wa q2) 1 6 0 s2) V T) (by rw [lk_near_back (lk_near_rf V k)]) ?_
              have hE : lk_wvm (B 1) (lk_qb B nf k).2 (lk_qa B nf k).2 k bb aa (r + 1) i j so V a row = a1 := by
                rw [lk_wvm, ← ha1]
                show (if j < aa then _ else a1) = _
                rw [if_pos (show j < aa by omega), hp2] <;> rfl
              have hW9 : lk_wvP σ (lk_up (lk_bar Wa q2) 1 6 0 s2) (i + j) (lk_wvm (B 1) (lk_qb B nf k).2 (lk_qa B nf k).2 k bb aa (r + 1) i j so V a row) := ⟨(lk_fx_up (lk_fx_bar fa (by decide) (by decide) (by decide)) (by decide)), fun x hx => (oa x hx).trans (hro x hx).symm, by rw [hE]; exact ga, by rw [hE]; exact ba, fun x => by rw [hE]; exact ra x⟩
              obtain ⟨Wb, hWb⟩ : ∃ w : lk_N, w = (lk_up (lk_bar Wa q2) 1 6 0 s2) := ⟨_, rfl⟩
              refine lk_sg (σ' := lk_ms Wb V T) (by rw [hWb]) ?_
              rw [← hWb] at hW9
              refine lk_iincN (a := 1) (m := 1) (L' := [(0, lk_vr 1 0), (1, lk_vi (nI (k))), (2, lk_vi (nI (i))), (3, lk_vi (nI (j))), (4, lk_vi (so)), (5, lk_vi (V 6 (k))), (6, lk_vi (V 6 (k + 1))), (7, lk_vi (V 4 (k))), (8, lk_vi (V 5 (k))), (9, lk_vi (nI (1 + 1))), (10, lk_vi (nI ((lk_qa B nf k).2 j)))]) dX9_weaves_318 rfl rfl (by decide +kernel) rfl ?_
              refine lk_cast (L' := [(0, lk_vr 1 0), (1, lk_vi (nI (k))), (2, lk_vi (nI (i))), (3, lk_vi (nI (j))), (4, lk_vi (so)), (5, lk_vi (V 6 (k))), (6, lk_vi (V 6 (k + 1))), (7, lk_vi (V 4 (k))), (8, lk_vi (V 5 (k))), (9, lk_vi 2), (10, lk_vi (nI ((lk_qa B nf k).2 j)))]) rfl rfl rfl ?_
              refine lk_goto (tgt := 133) dX9_weaves_321 (by decide) ?_
              refine lk_iload dX9_weaves_133 rfl ?_
              refine lk_iconst (v := 2) dX9_weaves_135 (by decide) ?_
              refine lk_icmp_geN (a := 2) (b := 2) (tgt := 324) dX9_weaves_136 (by decide) (by omega) (by omega) (fun hh79 => ?_) (fun hh79 => absurd hh79 (by decide))
              refine lk_vret dX9_weaves_324 rfl ?_
              rw [hQ]
              exact ⟨rfl, rfl, Wb, rfl, hW9⟩
          ·
            refine lk_goto (tgt := 318) dX9_weaves_173 (by decide) ?_
            have hE : lk_wvm (B 1) (lk_qb B nf k).2 (lk_qa B nf k).2 k bb aa (r + 1) i j so V a row = a1 := by
              rw [lk_wvm, ← ha1]
              show (if j < aa then _ else a1) = _
              rw [if_neg (show ¬ j < aa by omega)] <;> rfl
            have hW9 : lk_wvP σ Wa (i + j) (lk_wvm (B 1) (lk_qb B nf k).2 (lk_qa B nf k).2 k bb aa (r + 1) i j so V a row) := ⟨fa, fun x hx => (oa x hx).trans (hro x hx).symm, by rw [hE]; exact ga, by rw [hE]; exact ba, fun x => by rw [hE]; exact ra x⟩
            obtain ⟨Wb, hWb⟩ : ∃ w : lk_N, w = Wa := ⟨_, rfl⟩
            refine lk_sg (σ' := lk_ms Wb V T) (by rw [hWb]) ?_
            rw [← hWb] at hW9
            refine lk_iincN (a := 1) (m := 1) (L' := [(0, lk_vr 1 0), (1, lk_vi (nI (k))), (2, lk_vi (nI (i))), (3, lk_vi (nI (j))), (4, lk_vi (so)), (5, lk_vi (V 6 (k))), (6, lk_vi (V 6 (k + 1))), (7, lk_vi (V 4 (k))), (8, lk_vi (V 5 (k))), (9, lk_vi (nI (1 + 1))), (10, lk_vi (nI ((lk_qb B nf k).2 i)))]) dX9_weaves_318 rfl rfl (by decide +kernel) rfl ?_
            refine lk_cast (L' := [(0, lk_vr 1 0), (1, lk_vi (nI (k))), (2, lk_vi (nI (i))), (3, lk_vi (nI (j))), (4, lk_vi (so)), (5, lk_vi (V 6 (k))), (6, lk_vi (V 6 (k + 1))), (7, lk_vi (V 4 (k))), (8, lk_vi (V 5 (k))), (9, lk_vi 2), (10, lk_vi (nI ((lk_qb B nf k).2 i)))]) rfl rfl rfl ?_
            refine lk_goto (tgt := 133) dX9_weaves_321 (by decide) ?_
            refine lk_iload dX9_weaves_133 rfl ?_
            refine lk_iconst (v := 2) dX9_weaves_135 (by decide) ?_
            refine lk_icmp_geN (a := 2) (b := 2) (tgt := 324) dX9_weaves_136 (by decide) (by omega) (by omega) (fun hh80 => ?_) (fun hh80 => absurd hh80 (by decide))
            refine lk_vret dX9_weaves_324 rfl ?_
            rw [hQ]
            exact ⟨rfl, rfl, Wb, rfl, hW9⟩
      ·
        refine lk_goto (tgt := 318) dX9_weaves_157 (by decide) ?_
        obtain ⟨a1, ha1⟩ : ∃ a1 : lk_a, a1 = (if i < bb then lk_mt (lk_pas V k true (B 1 ((lk_qb B nf k).2 i))) (fun V' => lk_wvm (B 1) (lk_qb B nf k).2 (lk_qa B nf k).2 k bb aa r (i + 1) j (so + (V 6 (k + 1) - V' 6 (k + 1))) V' a (lk_rw row (i + j) (nI ((lk_qb B nf k).2 i)))) a else a) := ⟨_, rfl⟩
        have ha2 := ha1
        rw [if_neg (show ¬ i < bb by omega)] at ha2
        have hA : lk_fx [6, 7, 8, 9, 25, 26, 27, 28] σ σ ∧ (∀ x, x < i + j → σ 1 27 x = row x) ∧ σ 1 25 0 = nI a1.1 ∧ σ 1 26 0 = a1.2.1 ∧ ∀ x, σ 1 28 x = a1.2.2 x := ⟨(lk_fx_rf _ _), fun x hx => hro x hx, by rw [ha2]; exact hg, by rw [ha2]; exact hb, fun x => by rw [ha2]; exact hrw x⟩
        obtain ⟨Wa, hWa, fa, oa, ga, ba, ra⟩ : ∃ w : lk_N, w = σ ∧ (lk_fx [6, 7, 8, 9, 25, 26, 27, 28] σ w ∧ (∀ x, x < i + j → w 1 27 x = row x) ∧ w 1 25 0 = nI a1.1 ∧ w 1 26 0 = a1.2.1 ∧ ∀ x, w 1 28 x = a1.2.2 x) := ⟨_, rfl, hA⟩
        refine lk_sg (σ' := lk_ms Wa V T) (by rw [hWa]) ?_
        clear hWa hA
        refine lk_iincN (a := 0) (m := 1) (L' := [(0, lk_vr 1 0), (1, lk_vi (nI (k))), (2, lk_vi (nI (i))), (3, lk_vi (nI (j))), (4, lk_vi (so)), (5, lk_vi (V 6 (k))), (6, lk_vi (V 6 (k + 1))), (7, lk_vi (V 4 (k))), (8, lk_vi (V 5 (k))), (9, lk_vi (nI (0 + 1)))]) dX9_weaves_318 rfl rfl (by decide +kernel) rfl ?_
        refine lk_cast (L' := [(0, lk_vr 1 0), (1, lk_vi (nI (k))), (2, lk_vi (nI (i))), (3, lk_vi (nI (j))), (4, lk_vi (so)), (5, lk_vi (V 6 (k))), (6, lk_vi (V 6 (k + 1))), (7, lk_vi (V 4 (k))), (8, lk_vi (V 5 (k))), (9, lk_vi 1)]) rfl rfl rfl ?_
        refine lk_goto (tgt := 133) dX9_weaves_321 (by decide) ?_
        refine lk_iload dX9_weaves_133 rfl ?_
        refine lk_iconst (v := 2) dX9_weaves_135 (by decide) ?_
        refine lk_icmp_geN (a := 1) (b := 2) (tgt := 324) dX9_weaves_136 (by decide) (by omega) (by omega) (fun hh81 => absurd hh81 (by decide)) (fun hh81 => ?_)
        refine lk_iload dX9_weaves_139 rfl ?_
        refine lk_if_ne (tgt := 160) dX9_weaves_141 (by decide) (fun hh82 => ?_) (fun hh82 => absurd hh82 (by decide))
        refine lk_iload_n dX9_weaves_160 rfl rfl ?_
        refine lk_bipush (v := 6) dX9_weaves_161 (by decide) ?_
        refine lk_aload_n dX9_weaves_163 rfl rfl ?_
        refine lk_getIv (v := (nI ((lk_qa B nf k).1))) (f := 19) dX9_weaves_164 rfl fX9_171 (by decide) (by decide) ((lk_rf (by decide)).trans (lk_lq_w fa hq).2.1) ?_
        refine lk_mmin dX9_weaves_167 lX9_177 (Nat.le_of_ble_eq_true rfl) ?_
        refine lk_eqtop (y := (nI (aa))) (by rw [haa]; exact lk_min6m (by omega)) ?_
        refine lk_icmp_neN (a := j) (b := aa) (tgt := 176) dX9_weaves_170 (by decide) (by omega) (by omega) (fun hh83 => ?_) (fun hh83 => ?_)
        ·
          refine lk_iload dX9_weaves_176 rfl ?_
          refine lk_if_ne (tgt := 190) dX9_weaves_178 (by decide) (fun hh84 => ?_) (fun hh84 => absurd hh84 (by decide))
          refine lk_aload_n dX9_weaves_190 rfl rfl ?_
          refine lk_getR (f := 21) dX9_weaves_191 rfl fX9_33 (by decide) (by decide) ?_
          refine lk_iload_n dX9_weaves_194 rfl rfl ?_
          refine lk_ialdN (f := 21) (i := j) dX9_weaves_195 rfl (by decide) rfl (by omega) (by decide) ?_
          refine lk_eqtop (y := (nI ((lk_qa B nf k).2 j))) ((lk_rf (by decide)).trans ((lk_lq_w fa hq).2.2.2 j (by omega))) ?_
          refine lk_istore (L' := [(0, lk_vr 1 0), (1, lk_vi (nI (k))), (2, lk_vi (nI (i))), (3, lk_vi (nI (j))), (4, lk_vi (so)), (5, lk_vi (V 6 (k))), (6, lk_vi (V 6 (k + 1))), (7, lk_vi (V 4 (k))), (8, lk_vi (V 5 (k))), (9, lk_vi 1), (10, lk_vi (nI ((lk_qa B nf k).2 j)))]) dX9_weaves_196 (by decide +kernel) rfl ?_
          have hql : ((lk_qa B nf k).2 j) < nf := lk_gat_lt B (nI (k + 1)) 0 nf j (show j < (lk_qa B nf k).1 by omega)
          refine lk_aload_n dX9_weaves_198 rfl rfl ?_
          refine lk_iload_n dX9_weaves_199 rfl rfl ?_
          refine lk_iload dX9_weaves_200 rfl ?_
          refine lk_if_ne (tgt := 209) dX9_weaves_202 (by decide) (fun hh85 => ?_) (fun hh85 => absurd hh85 (by decide))
          refine lk_iconst (v := 0) dX9_weaves_209 (by decide) ?_
          refine lk_aload_n dX9_weaves_210 rfl rfl ?_
          refine lk_getR (f := 0) dX9_weaves_211 rfl fX9_9 (by decide) (by decide) ?_
          refine lk_bipush (v := 66) dX9_weaves_214 (by decide) ?_
          refine lk_iload dX9_weaves_216 rfl ?_
          refine lk_iaddN (a := 66) (b := (lk_qa B nf k).2 j) dX9_weaves_218 ?_
          refine lk_ialdN (f := 0) (i := 66 + (lk_qa B nf k).2 j) dX9_weaves_219 rfl (by decide) rfl (by omega) (by decide) ?_
          refine lk_eqtop (y := (B 1 ((lk_qa B nf k).2 j))) ((lk_rB (by omega)).trans ((lk_bv_w fa hB) _ hql).2.1) ?_
          rcases hp2 : lk_pas V k false (B 1 ((lk_qa B nf k).2 j)) with V3 | q2
          ·
            have hnV3 := (lk_pas_ok hp2 (hV.2.2.2 k hk6) (hz _ hql).1 (hz _ hql).2).1
            refine lk_callV (o := 1) (as := [lk_vi (nI (k)), lk_vi 0, lk_vi (B 1 ((lk_qa B nf k).2 j))]) (S := []) dX9_weaves_220 rfl vX9_goes rfl lX9_140 rfl rfl (Nat.le_of_ble_eq_true rfl) (tX9_goes_dn_ok l X d Wa τ (k := (k)) (z := (B 1 ((lk_qa B nf k).2 j))) (V := V) (T := T) (n := n) (hV := hV) (hr := hr) (hk := hk) (W := V3) (h := hp2)) ?_
            refine lk_k3 ?_
            refine lk_cast (pc' := 223) (S' := [lk_vi 1]) rfl rfl rfl ?_
            refine lk_if_eq (tgt := 272) dX9_weaves_223 (by decide) (fun hh86 => absurd hh86 (by decide)) (fun hh86 => ?_)
            refine lk_aload_n dX9_weaves_226 rfl rfl ?_
            refine lk_getR (f := 27) dX9_weaves_227 rfl fX9_36 (by decide) (by decide) ?_
            refine lk_iload_n dX9_weaves_230 rfl rfl ?_
            refine lk_iload_n dX9_weaves_231 rfl rfl ?_
            refine lk_iaddN (a := i) (b := j) dX9_weaves_232 ?_
            refine lk_iload dX9_weaves_233 rfl ?_
            refine lk_iastN (f := 27) (i := i + j) (v := (nI ((lk_qa B nf k).2 j))) dX9_weaves_235 rfl (by decide) rfl (by omega) (by decide) ?_
            refine lk_sg (σ' := (lk_ms (lk_up (lk_up Wa 1 6 0 (V 6 (k + 1) - V3 6 (k + 1))) 1 27 (i + j) (nI ((lk_qa B nf k).2 j))) V3 T)) (lk_wf (by decide)) ?_
            refine lk_aload_n dX9_weaves_236 rfl rfl ?_
            refine lk_iload_n dX9_weaves_237 rfl rfl ?_
            refine lk_iload dX9_weaves_238 rfl ?_
            refine lk_if_ne (tgt := 249) dX9_weaves_240 (by decide) (fun hh87 => ?_) (fun hh87 => absurd hh87 (by decide))
            refine lk_iload_n dX9_weaves_249 rfl rfl ?_
            refine lk_iload dX9_weaves_250 rfl ?_
            refine lk_if_ne (tgt := 259) dX9_weaves_252 (by decide) (fun hh88 => ?_) (fun hh88 => absurd hh88 (by decide))
            refine lk_iload_n dX9_weaves_259 rfl rfl ?_
            refine lk_iconst (v := 1) dX9_weaves_260 (by decide) ?_
            refine lk_iaddN (a := j) (b := 1) dX9_weaves_261 ?_
            refine lk_iload dX9_weaves_262 rfl ?_
            refine lk_aload_n dX9_weaves_264 rfl rfl ?_
            refine lk_getIv (v := ((V 6 (k + 1) - V3 6 (k + 1)))) (f := 6) dX9_weaves_265 rfl fX9_137 (by decide) (by decide) ((lk_rf (by decide)).trans rfl) ?_
            refine lk_iadd dX9_weaves_268 ?_
            refine lk_callV (o := 1) (as := [lk_vi (nI (k)), lk_vi (nI (i)), lk_vi (nI (j + 1)), lk_vi ((so) + ((V 6 (k + 1) - V3 6 (k + 1))))]) (S := []) dX9_weaves_269 rfl vX9_weaves rfl lX9_188 rfl rfl (Nat.le_of_ble_eq_true rfl) (ihw (lk_up (lk_up Wa 1 6 0 (V 6 (k + 1) - V3 6 (k + 1))) 1 27 (i + j) (nI ((lk_qa B nf k).2 j))) V3 i (j + 1) (((so) + ((V 6 (k + 1) - V3 6 (k + 1))))) a1 (lk_rw row (i + j) (nI ((lk_qa B nf k).2 j))) (lk_pas_cok hp2 hk hV (hz _ hql).1 (hz _ hql).2) (lk_pas_rok hr hk6 hp2) (lk_bv_w (σ := Wa) (lk_fx_up (lk_fx_up (lk_fx_rf _ _) (by decide)) (by decide)) (lk_bv_w fa hB)) (lk_lq_w (σ := Wa) (lk_fx_up (lk_fx_up (lk_fx_rf _ _) (by decide)) (by decide)) (lk_lq_w fa hq)) (by omega) (by omega) (by omega) ga ba ra (fun x hx => by
                  simp only [lk_up, lk_rw]
                  by_cases c : x = i + j
                  · subst c; simp
                  · rw [if_neg (by simp [c]), if_neg c]
                    exact oa x (by omega))) ?_
            refine lk_k4 (fun W2 hW2 => ?_)
            refine lk_cast (pc' := 272) (S' := []) rfl rfl rfl ?_
            refine lk_sg (σ' := (lk_ms W2 V3 T)) rfl ?_
            refine lk_aload_n dX9_weaves_272 rfl rfl ?_
            refine lk_getR (f := 0) dX9_weaves_273 rfl fX9_9 (by decide) (by decide) ?_
            refine lk_bipush (v := 24) dX9_weaves_276 (by decide) ?_
            refine lk_iload_n dX9_weaves_278 rfl rfl ?_
            refine lk_iaddN (a := 24) (b := k) dX9_weaves_279 ?_
            refine lk_iload dX9_weaves_280 rfl ?_
            refine lk_iastN (f := 0) (i := 24 + k) (v := (V 6 (k))) dX9_weaves_282 rfl (by decide) rfl (by omega) (by decide) ?_
            refine lk_sg (σ' := (lk_ms W2 (lk_ou V3 6 (k) (V 6 (k))) T)) (lk_w6 (by omega) (by omega)) ?_
            refine lk_aload_n dX9_weaves_283 rfl rfl ?_
            refine lk_getR (f := 0) dX9_weaves_284 rfl fX9_9 (by decide) (by decide) ?_
            refine lk_bipush (v := 24) dX9_weaves_287 (by decide) ?_
            refine lk_iload_n dX9_weaves_289 rfl rfl ?_
            refine lk_iaddN (a := 24) (b := k) dX9_weaves_290 ?_
            refine lk_iconst (v := 1) dX9_weaves_291 (by decide) ?_
            refine lk_iaddN (a := 24 + k) (b := 1) dX9_weaves_292 ?_
            refine lk_iload dX9_weaves_293 rfl ?_
            refine lk_iastN (f := 0) (i := 24 + k + 1) (v := (V 6 (k + 1))) dX9_weaves_295 rfl (by decide) rfl (by omega) (by decide) ?_
            refine lk_sg (σ' := (lk_ms W2 (lk_ou (lk_ou V3 6 (k) (V 6 (k))) 6 (k + 1) (V 6 (k + 1))) T)) (lk_w6 (by omega) (by omega)) ?_
            refine lk_aload_n dX9_weaves_296 rfl rfl ?_
            refine lk_getR (f := 0) dX9_weaves_297 rfl fX9_9 (by decide) (by decide) ?_
            refine lk_bipush (v := 12) dX9_weaves_300 (by decide) ?_
            refine lk_iload_n dX9_weaves_302 rfl rfl ?_
            refine lk_iaddN (a := 12) (b := k) dX9_weaves_303 ?_
            refine lk_iload dX9_weaves_304 rfl ?_
            refine lk_iastN (f := 0) (i := 12 + k) (v := (V 4 (k))) dX9_weaves_306 rfl (by decide) rfl (by omega) (by decide) ?_
            refine lk_sg (σ' := (lk_ms W2 (lk_ou (lk_ou (lk_ou V3 6 (k) (V 6 (k))) 6 (k + 1) (V 6 (k + 1))) 4 (k) (V 4 (k))) T)) (lk_w4 (by omega) (by omega)) ?_
            refine lk_aload_n dX9_weaves_307 rfl rfl ?_
            refine lk_getR (f := 0) dX9_weaves_308 rfl fX9_9 (by decide) (by decide) ?_
            refine lk_bipush (v := 18) dX9_weaves_311 (by decide) ?_
            refine lk_iload_n dX9_weaves_313 rfl rfl ?_
            refine lk_iaddN (a := 18) (b := k) dX9_weaves_314 ?_
            refine lk_iload dX9_weaves_315 rfl ?_
            refine lk_iastN (f := 0) (i := 18 + k) (v := (V 5 (k))) dX9_weaves_317 rfl (by decide) rfl (by omega) (by decide) ?_
            refine lk_sg (σ' := (lk_ms W2 (lk_ou (lk_ou (lk_ou (lk_ou V3 6 (k) (V 6 (k))) 6 (k + 1) (V 6 (k + 1))) 4 (k) (V 4 (k))) 5 (k) (V 5 (k))) T)) (lk_w5 (by omega) (by omega)) ?_
            refine lk_sg (σ' := lk_ms W2 V T) (by rw [lk_near_back hnV3]) ?_
            have hE : lk_wvm (B 1) (lk_qb B nf k).2 (lk_qa B nf k).2 k bb aa (r + 1) i j so V a row = lk_wvm (B 1) (lk_qb B nf k).2 (lk_qa B nf k).2 k bb aa r i (j + 1) (so + (V 6 (k + 1) - V3 6 (k + 1))) V3 a1 (lk_rw row (i + j) (nI ((lk_qa B nf k).2 j))) := by
              rw [lk_wvm, ← ha1]
              show (if j < aa then _ else a1) = _
              rw [if_pos (show j < aa by omega), hp2] <;> rfl
            have hW9 : lk_wvP σ W2 (i + j) (lk_wvm (B 1) (lk_qb B nf k).2 (lk_qa B nf k).2 k bb aa (r + 1) i j so V a row) := ⟨(lk_fx_tr fa (lk_fx_tr (lk_fx_up (lk_fx_up (lk_fx_rf _ _) (by decide)) (by decide)) hW2.1)), fun x hx => ((hW2.2.1 x (by omega)).trans (by simp only [lk_up]; rw [if_neg (by simp; omega), if_neg (by simp)]; exact oa x hx)).trans (hro x hx).symm, by rw [hE]; exact hW2.2.2.1, by rw [hE]; exact hW2.2.2.2.1, fun x => by rw [hE]; exact hW2.2.2.2.2 x⟩
            obtain ⟨Wb, hWb⟩ : ∃ w : lk_N, w = W2 := ⟨_, rfl⟩
            refine lk_sg (σ' := lk_ms Wb V T) (by rw [hWb]) ?_
            rw [← hWb] at hW9
            refine lk_iincN (a := 1) (m := 1) (L' := [(0, lk_vr 1 0), (1, lk_vi (nI (k))), (2, lk_vi (nI (i))), (3, lk_vi (nI (j))), (4, lk_vi (so)), (5, lk_vi (V 6 (k))), (6, lk_vi (V 6 (k + 1))), (7, lk_vi (V 4 (k))), (8, lk_vi (V 5 (k))), (9, lk_vi (nI (1 + 1))), (10, lk_vi (nI ((lk_qa B nf k).2 j)))]) dX9_weaves_318 rfl rfl (by decide +kernel) rfl ?_
            refine lk_cast (L' := [(0, lk_vr 1 0), (1, lk_vi (nI (k))), (2, lk_vi (nI (i))), (3, lk_vi (nI (j))), (4, lk_vi (so)), (5, lk_vi (V 6 (k))), (6, lk_vi (V 6 (k + 1))), (7, lk_vi (V 4 (k))), (8, lk_vi (V 5 (k))), (9, lk_vi 2), (10, lk_vi (nI ((lk_qa B nf k).2 j)))]) rfl rfl rfl ?_
            refine lk_goto (tgt := 133) dX9_weaves_321 (by decide) ?_
            refine lk_iload dX9_weaves_133 rfl ?_
            refine lk_iconst (v := 2) dX9_weaves_135 (by decide) ?_
            refine lk_icmp_geN (a := 2) (b := 2) (tgt := 324) dX9_weaves_136 (by decide) (by omega) (by omega) (fun hh89 => ?_) (fun hh89 => absurd hh89 (by decide))
            refine lk_vret dX9_weaves_324 rfl ?_
            rw [hQ]
            exact ⟨rfl, rfl, Wb, rfl, hW9⟩
          ·
            refine lk_callV (o := 1) (as := [lk_vi (nI (k)), lk_vi 0, lk_vi (B 1 ((lk_qa B nf k).2 j))]) (S := []) dX9_weaves_220 rfl vX9_goes rfl lX9_140 rfl rfl (Nat.le_of_ble_eq_true rfl) (tX9_goes_dn_no l X d Wa τ (k := (k)) (z := (B 1 ((lk_qa B nf k).2 j))) (V := V) (T := T) (n := n) (hV := hV) (hr := hr) (hk := hk) (q := q2) (h := hp2)) ?_
            refine lk_k5 (fun s2 => ?_)
            refine lk_cast (pc' := 223) (S' := [lk_vi 0]) rfl rfl rfl ?_
            refine lk_sg (σ' := (lk_ms (lk_up (lk_bar Wa q2) 1 6 0 s2) V T)) rfl ?_
            refine lk_if_eq (tgt := 272) dX9_weaves_223 (by decide) (fun hh90 => ?_) (fun hh90 => absurd hh90 (by decide))
            refine lk_aload_n dX9_weaves_272 rfl rfl ?_
            refine lk_getR (f := 0) dX9_weaves_273 rfl fX9_9 (by decide) (by decide) ?_
            refine lk_bipush (v := 24) dX9_weaves_276 (by decide) ?_
            refine lk_iload_n dX9_weaves_278 rfl rfl ?_
            refine lk_iaddN (a := 24) (b := k) dX9_weaves_279 ?_
            refine lk_iload dX9_weaves_280 rfl ?_
            refine lk_iastN (f := 0) (i := 24 + k) (v := (V 6 (k))) dX9_weaves_282 rfl (by decide) rfl (by omega) (by decide) ?_
            refine lk_sg (σ' := (lk_ms (lk_up (lk_bar Wa q2) 1 6 0 s2) (lk_ou V 6 (k) (V 6 (k))) T)) (lk_w6 (by omega) (by omega)) ?_
            refine lk_aload_n dX9_weaves_283 rfl rfl ?_
            refine lk_getR (f := 0) dX9_weaves_284 rfl fX9_9 (by decide) (by decide) ?_
            refine lk_bipush (v := 24) dX9_weaves_287 (by decide) ?_
            refine lk_iload_n dX9_weaves_289 rfl rfl ?_
            refine lk_iaddN (a := 24) (b := k) dX9_weaves_290 ?_
            refine lk_iconst (v := 1) dX9_weaves_291 (by decide) ?_
            refine lk_iaddN (a := 24 + k) (b := 1) dX9_weaves_292 ?_
            refine lk_iload dX9_weaves_293 rfl ?_
            refine lk_iastN (f := 0) (i := 24 + k + 1) (v := (V 6 (k + 1))) dX9_weaves_295 rfl (by decide) rfl (by omega) (by decide) ?_
            refine lk_sg (σ' := (lk_ms (lk_up (lk_bar Wa q2) 1 6 0 s2) (lk_ou (lk_ou V 6 (k) (V 6 (k))) 6 (k + 1) (V 6 (k + 1))) T)) (lk_w6 (by omega) (by omega)) ?_
            refine lk_aload_n dX9_weaves_296 rfl rfl ?_
            refine lk_getR (f := 0) dX9_weaves_297 rfl fX9_9 (by decide) (by decide) ?_
            refine lk_bipush (v := 12) dX9_weaves_300 (by decide) ?_
            refine lk_iload_n dX9_weaves_302 rfl rfl ?_
            refine lk_iaddN (a := 12) (b := k) dX9_weaves_303 ?_
            refine lk_iload dX9_weaves_304 rfl ?_
            refine lk_iastN (f := 0) (i := 12 + k) (v := (V 4 (k))) dX9_weaves_306 rfl (by decide) rfl (by omega) (by decide) ?_
            refine lk_sg (σ' := (lk_ms (lk_up (lk_bar Wa q2) 1 6 0 s2) (lk_ou (lk_ou (lk_ou V 6 (k) (V 6 (k))) 6 (k + 1) (V 6 (k + 1))) 4 (k) (V 4 (k))) T)) (lk_w4 (by omega) (by omega)) ?_
            refine lk_aload_n dX9_weaves_307 rfl rfl ?_
            refine lk_getR (f := 0) dX9_weaves_308 rfl fX9_9 (by decide) (by decide) ?_
            refine lk_bipush (v := 18) dX9_weaves_311 (by decide) ?_
            refine lk_iload_n dX9_weaves_313 rfl rfl ?_
            refine lk_iaddN (a := 18) (b := k) dX9_weaves_314 ?_
            refine lk_iload dX9_weaves_315 rfl ?_
            refine lk_iastN (f := 0) (i := 18 + k) (v := (V 5 (k))) dX9_weaves_317 rfl (by decide) rfl (by omega) (by decide) ?_
            refine lk_sg (σ' := (lk_ms (lk_up (lk_bar Wa q2) 1 6 0 s2) (lk_ou (lk_ou (lk_ou (lk_ou V 6 (k) (V 6 (k))) 6 (k + 1) (V 6 (k + 1))) 4 (k) (V 4 (k))) 5 (k) (V 5 (k))) T)) (lk_w5 (by omega) (by omega)) ?_
            refine lk_sg (σ' := lk_ms (lk_up (lk_bar Wa q2) 1 6 0 s2) V T) (by rw [lk_near_back (lk_near_rf V k)]) ?_
            have hE : lk_wvm (B 1) (lk_qb B nf k).2 (lk_qa B nf k).2 k bb aa (r + 1) i j so V a row = a1 := by
              rw [lk_wvm, ← ha1]
              show (if j < aa then _ else a1) = _
              rw [if_pos (show j < aa by omega), hp2] <;> rfl
            have hW9 : lk_wvP σ (lk_up (lk_bar Wa q2) 1 6 0 s2) (i + j) (lk_wvm (B 1) (lk_qb B nf k).2 (lk_qa B nf k).2 k bb aa (r + 1) i j so V a row) := ⟨(lk_fx_up (lk_fx_bar fa (by decide) (by decide) (by decide)) (by decide)), fun x hx => (oa x hx).trans (hro x hx).symm, by rw [hE]; exact ga, by rw [hE]; exact ba, fun x => by rw [hE]; exact ra x⟩
            obtain ⟨Wb, hWb⟩ : ∃ w : lk_N, w = (lk_up (lk_bar Wa q2) 1 6 0 s2) := ⟨_, rfl⟩
            refine lk_sg (σ' := lk_ms Wb V T) (by rw [hWb]) ?_
            rw [← hWb] at hW9
            refine lk_iincN (a := 1) (m := 1) (L' := [(0, lk_vr 1 0), (1, lk_vi (nI (k))), (2, lk_vi (nI (i))), (3, lk_vi (nI (j))), (4, lk_vi (so)), (5, lk_vi (V 6 (k))), (6, lk_vi (V 6 (k + 1))), (7, lk_vi (V 4 (k))), (8, lk_vi (V 5 (k))), (9, lk_vi (nI (1 + 1))), (10, lk_vi (nI ((lk_qa B nf k).2 j)))]) dX9_weaves_318 rfl rfl (by decide +kernel) rfl ?_
            refine lk_cast (L' := [(0, lk_vr 1 0), (1, lk_vi (nI (k))), (2, lk_vi (nI (i))), (3, lk_vi (nI (j))), (4, lk_vi (so)), (5, lk_vi (V 6 (k))), (6, lk_vi (V 6 (k + 1))), (7, lk_vi (V 4 (k))), (8, lk_vi (V 5 (k))), (9, lk_vi 2), (10, lk_vi (nI ((lk_qa B nf k).2 j)))]) rfl rfl rfl ?_
            refine lk_goto (tgt := 133) dX9_weaves_321 (by decide) ?_
            refine lk_iload dX9_weaves_133 rfl ?_
            refine lk_iconst (v := 2) dX9_weaves_135 (by decide) ?_
            refine lk_icmp_geN (a := 2) (b := 2) (tgt := 324) dX9_weaves_136 (by decide) (by omega) (by omega) (fun hh91 => ?_) (fun hh91 => absurd hh91 (by decide))
            refine lk_vret dX9_weaves_324 rfl ?_
            rw [hQ]
            exact ⟨rfl, rfl, Wb, rfl, hW9⟩
        ·
          refine lk_goto (tgt := 318) dX9_weaves_173 (by decide) ?_
          have hE : lk_wvm (B 1) (lk_qb B nf k).2 (lk_qa B nf k).2 k bb aa (r + 1) i j so V a row = a1 := by
            rw [lk_wvm, ← ha1]
            show (if j < aa then _ else a1) = _
            rw [if_neg (show ¬ j < aa by omega)] <;> rfl
          have hW9 : lk_wvP σ Wa (i + j) (lk_wvm (B 1) (lk_qb B nf k).2 (lk_qa B nf k).2 k bb aa (r + 1) i j so V a row) := ⟨fa, fun x hx => (oa x hx).trans (hro x hx).symm, by rw [hE]; exact ga, by rw [hE]; exact ba, fun x => by rw [hE]; exact ra x⟩
          obtain ⟨Wb, hWb⟩ : ∃ w : lk_N, w = Wa := ⟨_, rfl⟩
          refine lk_sg (σ' := lk_ms Wb V T) (by rw [hWb]) ?_
          rw [← hWb] at hW9
          refine lk_iincN (a := 1) (m := 1) (L' := [(0, lk_vr 1 0), (1, lk_vi (nI (k))), (2, lk_vi (nI (i))), (3, lk_vi (nI (j))), (4, lk_vi (so)), (5, lk_vi (V 6 (k))), (6, lk_vi (V 6 (k + 1))), (7, lk_vi (V 4 (k))), (8, lk_vi (V 5 (k))), (9, lk_vi (nI (1 + 1)))]) dX9_weaves_318 rfl rfl (by decide +kernel) rfl ?_
          refine lk_cast (L' := [(0, lk_vr 1 0), (1, lk_vi (nI (k))), (2, lk_vi (nI (i))), (3, lk_vi (nI (j))), (4, lk_vi (so)), (5, lk_vi (V 6 (k))), (6, lk_vi (V 6 (k + 1))), (7, lk_vi (V 4 (k))), (8, lk_vi (V 5 (k))), (9, lk_vi 2)]) rfl rfl rfl ?_
          refine lk_goto (tgt := 133) dX9_weaves_321 (by decide) ?_
          refine lk_iload dX9_weaves_133 rfl ?_
          refine lk_iconst (v := 2) dX9_weaves_135 (by decide) ?_
          refine lk_icmp_geN (a := 2) (b := 2) (tgt := 324) dX9_weaves_136 (by decide) (by omega) (by omega) (fun hh92 => ?_) (fun hh92 => absurd hh92 (by decide))
          refine lk_vret dX9_weaves_324 rfl ?_
          rw [hQ]
          exact ⟨rfl, rfl, Wb, rfl, hW9⟩
    ·
      exfalso; omega
