/-- what the boats spend by an order (a mask), r of them being left; none: one can't go -/
def lk_spo (Z : Nat → Int32) (qb qa : Nat → Nat) (k m : Nat) : Nat → Nat → Nat → Int32 → lk_O → Option Int32
  | 0, _, _, so, _ => some so
  | r + 1, i, j, so, V =>
    if m / 2 ^ r % 2 = 0 then
      match lk_pas V k true (Z (qb i)) with
      | .inl V' => lk_spo Z qb qa k m r (i + 1) j (so + (V 6 (k + 1) - V' 6 (k + 1))) V'
      | .inr _ => none
    else
      match lk_pas V k false (Z (qa j)) with
      | .inl V' => lk_spo Z qb qa k m r i (j + 1) (so + (V 6 (k + 1) - V' 6 (k + 1))) V'
      | .inr _ => none
def lk_so0 (o : Option Int32) : Int32 := match o with
  | some s => s
  | none => -2000002
/-- but canal c, its tally and cause -/
def lk_frc (c : Nat) (σ W : lk_N) : Prop := ∀ o, ¬ o = c → ¬ o = c + 1 → ¬ o = c + 2 → W o = σ o
theorem lk_frc_s2 {c : Nat} {σ W : lk_N} (h : lk_frc c σ W) (V T : lk_O) : lk_frc c σ (lk_s2 W c V T) := fun o h0 h1 h2 => by rw [lk_s2_ne h0 h1]; exact h o h0 h1 h2
theorem lk_frc_k {c : Nat} {σ W : lk_N} (h : lk_frc c σ W) (V : lk_O) : lk_frc c σ (lk_so W (c + 2) V) := fun o h0 h1 h2 => by rw [lk_so_ne h2]; exact h o h0 h1 h2
set_option maxHeartbeats 1000000 in
set_option maxRecDepth 100000 in
theorem tX8_spentByOrder (l : Launch) (X : lk_G) (d : Nat) (σ : lk_N) (τ : lk_T) (n k m : Nat) (hV : lk_cok (σ 8) n) (hk : k < n) (nf : Nat) (hn : σ 11 5 0 = nI nf) (hn12 : nf ≤ 12) (hz : ∀ b, b < nf → 0 ≤ (σ 11 1 b).toInt ∧ (σ 11 1 b).toInt ≤ 9) (cb ca A B : Nat) (qb qa : Nat → Nat) (hgb : σ 15 1 0 = nI cb) (hha : σ 16 1 0 = nI ca) (hqb : ∀ i, i < cb → σ 15 0 i = nI (qb i)) (hqa : ∀ i, i < ca → σ 16 0 i = nI (qa i)) (hqbn : ∀ i, i < cb → qb i < nf) (hqan : ∀ i, i < ca → qa i < nf) (hcb : cb ≤ 22) (hca : ca ≤ 22) (hB : B ≤ cb) (hA : A ≤ ca) (N g b : Nat) (s : Int32) (hw : σ 18 = lk_ww N A g s b) (hN : N = A + B) (hN12 : N ≤ 12) (hm : m < 2 ^ N) (hon : lk_onz N m = A) : lk_Mt l X mX8_spentByOrder (d + 3) [lk_vr 0 0, lk_vi (nI (k)), lk_vi (nI (m))] σ τ (fun rr σ1 τ1 => rr = some (lk_vi (lk_so0 (lk_spo (σ 11 1) qb qa k m N 0 0 0 (σ 8)))) ∧ τ1 = τ ∧ ∃ W : lk_N, σ1 = W ∧ (lk_frc 8 σ W ∧ lk_near (σ 8) (W 8) k ∧ lk_cok (W 8) n)) := by
  refine lk_met (L := [(0, lk_vr 0 0), (1, lk_vi (nI (k))), (2, lk_vi (nI (m)))]) (by decide +kernel) (Nat.le_of_ble_eq_true rfl) rfl ?_
  obtain ⟨Q, hQ⟩ : ∃ Q : lk_Q, Q = fun rr σ1 τ1 => rr = some (lk_vi (lk_so0 (lk_spo (σ 11 1) qb qa k m N 0 0 0 (σ 8)))) ∧ τ1 = τ ∧ ∃ W : lk_N, σ1 = W ∧ (lk_frc 8 σ W ∧ lk_near (σ 8) (W 8) k ∧ lk_cok (W 8) n) := ⟨_, rfl⟩
  rw [← hQ]
  have hk6 : k < 6 := Nat.lt_of_lt_of_le hk hV.2.2.1
  obtain ⟨R, hR⟩ : ∃ R, R = lk_spo (σ 11 1) qb qa k m N 0 0 0 (σ 8) := ⟨_, rfl⟩
  rw [← hR] at hQ
  refine lk_iconst (v := 0) dX8_spentByOrder_0 (by decide) ?_
  refine lk_istore_n (L' := [(0, lk_vr 0 0), (1, lk_vi (nI (k))), (2, lk_vi (nI (m))), (3, lk_vi 0)]) dX8_spentByOrder_1 rfl (by decide +kernel) rfl ?_
  refine lk_iconst (v := 0) dX8_spentByOrder_2 (by decide) ?_
  refine lk_istore (L' := [(0, lk_vr 0 0), (1, lk_vi (nI (k))), (2, lk_vi (nI (m))), (3, lk_vi 0), (4, lk_vi 0)]) dX8_spentByOrder_3 (by decide +kernel) rfl ?_
  refine lk_iconst (v := 0) dX8_spentByOrder_5 (by decide) ?_
  refine lk_istore (L' := [(0, lk_vr 0 0), (1, lk_vi (nI (k))), (2, lk_vi (nI (m))), (3, lk_vi 0), (4, lk_vi 0), (5, lk_vi 0)]) dX8_spentByOrder_6 (by decide +kernel) rfl ?_
  refine lk_iconst (v := 0) dX8_spentByOrder_8 (by decide) ?_
  refine lk_istore (L' := [(0, lk_vr 0 0), (1, lk_vi (nI (k))), (2, lk_vi (nI (m))), (3, lk_vi 0), (4, lk_vi 0), (5, lk_vi 0), (6, lk_vi 0)]) dX8_spentByOrder_9 (by decide +kernel) rfl ?_
  have LP11 : ∀ (fu : Nat) (t i j : Nat) (so : Int32) (W : lk_N), t ≤ N → i + j = t → lk_onz (N - t) m + j = A → R = lk_spo (σ 11 1) qb qa k m (N - t) i j so (W 8) → lk_frc 8 σ W → lk_near (σ 8) (W 8) k → lk_cok (W 8) n → N - t < fu → lk_W l X mX8_spentByOrder (d + 3) 11 [(0, lk_vr 0 0), (1, lk_vi (nI (k))), (2, lk_vi (nI (m))), (3, lk_vi (so)), (4, lk_vi (nI (i))), (5, lk_vi (nI (j))), (6, lk_vi (nI (t)))] [] W τ Q := by
    intro fu
    induction fu with
    | zero => intro t i j so W htN hij hoz hI hfr hnr hW8 hfu; exact absurd hfu (by omega)
    | succ fu ih =>
      intro t i j so W htN hij hoz hI hfr hnr hW8 hfu
      refine lk_iload dX8_spentByOrder_11 rfl ?_
      have w11 : W 11 = σ 11 := hfr 11 (by decide) (by decide) (by decide)
      have w15 : W 15 = σ 15 := hfr 15 (by decide) (by decide) (by decide)
      have w16 : W 16 = σ 16 := hfr 16 (by decide) (by decide) (by decide)
      have w18 : W 18 = lk_ww N A g s b := (hfr 18 (by decide) (by decide) (by decide)).trans hw
      refine lk_aload_n dX8_spentByOrder_13 rfl rfl ?_
      refine lk_getO (f := 13) (o' := 18) dX8_spentByOrder_14 rfl fX8_64 (by decide) (by decide) rfl ?_
      refine lk_getIv (v := (nI (N))) (f := 0) dX8_spentByOrder_17 rfl fX8_245 (by decide) (by decide) (by rw [w18]; rfl) ?_
      refine lk_icmp_geN (a := t) (b := N) (tgt := 111) dX8_spentByOrder_20 (by decide) (by omega) (by omega) (fun hh1 => ?_) (fun hh1 => ?_)
      ·
        refine lk_iload_n dX8_spentByOrder_111 rfl rfl ?_
        refine lk_iret .int dX8_spentByOrder_112 rfl rfl ?_
        rw [hQ]
        rw [show N - t = 0 by omega, lk_spo] at hI
        rw [hI]
        exact ⟨rfl, rfl, W, rfl, hfr, hnr, hW8⟩
      ·
        have hb1 : m / 2 ^ (N - 1 - t) % 2 < 2 := Nat.mod_lt _ (by decide)
        have hsp : lk_onz (N - t) m = lk_onz (N - (t + 1)) m + m / 2 ^ (N - 1 - t) % 2 := by
          rw [show N - t = (N - (t + 1)) + 1 by omega, lk_onz, show N - (t + 1) = N - 1 - t by omega]
        have hpl := lk_onz_le (N - (t + 1)) m
        refine lk_aload_n dX8_spentByOrder_23 rfl rfl ?_
        refine lk_getO (f := 13) (o' := 18) dX8_spentByOrder_24 rfl fX8_64 (by decide) (by decide) rfl ?_
        refine lk_iload_n dX8_spentByOrder_27 rfl rfl ?_
        refine lk_iload dX8_spentByOrder_28 rfl ?_
        refine lk_callV (o := 18) (as := [lk_vi (nI (m)), lk_vi (nI (t))]) (S := []) dX8_spentByOrder_30 rfl vX7_isFromBelow rfl lX8_261 rfl rfl (Nat.le_of_ble_eq_true rfl) (tX7_isFromBelow l X (d + 2) W τ (m := (m)) (i := (t)) (N := N) (a := A) (g := g) (b := b) (s := s) (hW := w18) (hN := hN12) (hm := hm) (hi := by omega)) ?_
        refine lk_k3 ?_
        refine lk_cast (pc' := 33) (S' := [lk_vi (if (m) / 2 ^ (N - 1 - (t)) % 2 = 0 then 1 else 0)]) rfl rfl rfl ?_
        refine lk_istore (L' := [(0, lk_vr 0 0), (1, lk_vi (nI (k))), (2, lk_vi (nI (m))), (3, lk_vi (so)), (4, lk_vi (nI (i))), (5, lk_vi (nI (j))), (6, lk_vi (nI (t))), (7, lk_vi (if (m) / 2 ^ (N - 1 - (t)) % 2 = 0 then 1 else 0))]) dX8_spentByOrder_33 (by decide +kernel) rfl ?_
        refine lk_iload dX8_spentByOrder_35 rfl ?_
        refine lk_if_eqB (tgt := 55) dX8_spentByOrder_37 (by decide) (fun hh2 => ?_) (fun hh2 => ?_)
        ·
          have hst : lk_onz (N - (t + 1)) m + (j + 1) = A := by omega
          refine lk_aload_n dX8_spentByOrder_55 rfl rfl ?_
          refine lk_getO (f := 11) (o' := 16) dX8_spentByOrder_56 rfl fX8_51 (by decide) (by decide) rfl ?_
          refine lk_iload dX8_spentByOrder_59 rfl ?_
          refine lk_iincN (a := j) (m := 1) (L' := [(0, lk_vr 0 0), (1, lk_vi (nI (k))), (2, lk_vi (nI (m))), (3, lk_vi (so)), (4, lk_vi (nI (i))), (5, lk_vi (nI (j + 1))), (6, lk_vi (nI (t))), (7, lk_vi (if (m) / 2 ^ (N - 1 - (t)) % 2 = 0 then 1 else 0))]) dX8_spentByOrder_61 rfl rfl (by decide +kernel) rfl ?_
          refine lk_callV (o := 16) (as := [lk_vi (nI (j))]) (S := []) dX8_spentByOrder_64 rfl vX3_boatAt rfl lX8_228 rfl rfl (Nat.le_of_ble_eq_true rfl) (tX3_boatAt_in l X (d + 2) W τ (g := 16) (i := (j)) (hg := rfl) (hc := by rw [w16]; exact hha) (hi := by omega) (hc22 := hca) (hx := by rw [w16]; exact hqa j (by omega))) ?_
          refine lk_k3 ?_
          refine lk_cast (pc' := 67) (S' := [lk_vi (nI ((qa j)))]) rfl rfl rfl ?_
          refine lk_istore (L' := [(0, lk_vr 0 0), (1, lk_vi (nI (k))), (2, lk_vi (nI (m))), (3, lk_vi (so)), (4, lk_vi (nI (i))), (5, lk_vi (nI (j + 1))), (6, lk_vi (nI (t))), (7, lk_vi (if (m) / 2 ^ (N - 1 - (t)) % 2 = 0 then 1 else 0)), (8, lk_vi (nI ((qa j))))]) dX8_spentByOrder_67 (by decide +kernel) rfl ?_
          refine lk_aload_n dX8_spentByOrder_69 rfl rfl ?_
          refine lk_getO (f := 8) (o' := 8) dX8_spentByOrder_70 rfl fX8_38 (by decide) (by decide) rfl ?_
          refine lk_iload_n dX8_spentByOrder_73 rfl rfl ?_
          refine lk_iload dX8_spentByOrder_74 rfl ?_
          refine lk_eqtop (y := 0) (by first | rw [if_pos (by assumption)] | rw [if_neg (by assumption)]) ?_
          refine lk_aload_n dX8_spentByOrder_76 rfl rfl ?_
          refine lk_getO (f := 1) (o' := 11) dX8_spentByOrder_77 rfl fX8_21 (by decide) (by decide) rfl ?_
          refine lk_iload dX8_spentByOrder_80 rfl ?_
          refine lk_callV (o := 11) (as := [lk_vi (nI ((qa j)))]) (S := [lk_vi 0, lk_vi (nI (k)), lk_vr 8 0]) dX8_spentByOrder_82 rfl vX2_sizeOf rfl lX8_264 rfl rfl (Nat.le_of_ble_eq_true rfl) (tX2_sizeOf l X (d + 1) W τ (f := 11) (b := ((qa j))) (hf := rfl) (n := nf) (hn := by rw [w11]; exact hn) (hb := hqan j (by omega)) (hn22 := by omega)) ?_
          refine lk_k3 ?_
          refine lk_cast (pc' := 85) (S' := [lk_vi (W 11 1 ((qa j))), lk_vi 0, lk_vi (nI (k)), lk_vr 8 0]) rfl rfl rfl ?_
          refine lk_eqtop (y := (σ 11 1 (qa j))) (by rw [w11]) ?_
          rcases hp : lk_pas (W 8) k false (σ 11 1 (qa j)) with V2 | q9
          ·
            have hzq := hz (qa j) (hqan j (by omega))
            refine lk_callV (o := 8) (as := [lk_vi (nI (k)), lk_vi 0, lk_vi (σ 11 1 (qa j))]) (S := []) dX8_spentByOrder_85 rfl vX0_passage rfl lX8_198 rfl rfl (Nat.le_of_ble_eq_true rfl) (tX0_passage_ok l X d W τ (c := 8) (k := (k)) (z := (σ 11 1 (qa j))) (b := false) (hc := rfl) (n := n) (hV := hW8) (hk := hk) (V := V2) (h := hp)) ?_
            refine lk_k3 ?_
            refine lk_cast (pc' := 88) (S' := [lk_vi (W 8 6 ((k) + 1) - V2 6 ((k) + 1))]) rfl rfl rfl ?_
            refine lk_istore (L' := [(0, lk_vr 0 0), (1, lk_vi (nI (k))), (2, lk_vi (nI (m))), (3, lk_vi (so)), (4, lk_vi (nI (i))), (5, lk_vi (nI (j + 1))), (6, lk_vi (nI (t))), (7, lk_vi (if (m) / 2 ^ (N - 1 - (t)) % 2 = 0 then 1 else 0)), (8, lk_vi (nI ((qa j)))), (9, lk_vi (W 8 6 ((k) + 1) - V2 6 ((k) + 1)))]) dX8_spentByOrder_88 (by decide +kernel) rfl ?_
            refine lk_iload dX8_spentByOrder_90 rfl ?_
            refine lk_ldc dX8_spentByOrder_92 kX8_202 ?_
            refine lk_icmp_ne (tgt := 100) dX8_spentByOrder_94 (by decide) (fun hh3 => ?_) (fun hh3 => absurd hh3 (lk_sp_ne (lk_pas_ok hp (hW8.2.2.2 k hk6) hzq.1 hzq.2).2.2.1))
            refine lk_iload_n dX8_spentByOrder_100 rfl rfl ?_
            refine lk_iload dX8_spentByOrder_101 rfl ?_
            refine lk_iadd dX8_spentByOrder_103 ?_
            refine lk_istore_n (L' := [(0, lk_vr 0 0), (1, lk_vi (nI (k))), (2, lk_vi (nI (m))), (3, lk_vi ((so) + (W 8 6 ((k) + 1) - V2 6 ((k) + 1)))), (4, lk_vi (nI (i))), (5, lk_vi (nI (j + 1))), (6, lk_vi (nI (t))), (7, lk_vi (if (m) / 2 ^ (N - 1 - (t)) % 2 = 0 then 1 else 0)), (8, lk_vi (nI ((qa j)))), (9, lk_vi (W 8 6 ((k) + 1) - V2 6 ((k) + 1)))]) dX8_spentByOrder_104 rfl (by decide +kernel) rfl ?_
            refine lk_iincN (a := t) (m := 1) (L' := [(0, lk_vr 0 0), (1, lk_vi (nI (k))), (2, lk_vi (nI (m))), (3, lk_vi ((so) + (W 8 6 ((k) + 1) - V2 6 ((k) + 1)))), (4, lk_vi (nI (i))), (5, lk_vi (nI (j + 1))), (6, lk_vi (nI (t + 1))), (7, lk_vi (if (m) / 2 ^ (N - 1 - (t)) % 2 = 0 then 1 else 0)), (8, lk_vi (nI ((qa j)))), (9, lk_vi (W 8 6 ((k) + 1) - V2 6 ((k) + 1)))]) dX8_spentByOrder_105 rfl rfl (by decide +kernel) rfl ?_
            refine lk_goto (tgt := 11) dX8_spentByOrder_108 (by decide) ?_
            refine lk_sub (L' := [(0, lk_vr 0 0), (1, lk_vi (nI (k))), (2, lk_vi (nI (m))), (3, lk_vi ((so) + (W 8 6 ((k) + 1) - V2 6 ((k) + 1)))), (4, lk_vi (nI (i))), (5, lk_vi (nI (j + 1))), (6, lk_vi (nI (t + 1)))]) [0, 1, 2, 3, 4, 5, 6] rfl ?_
            rw [show N - t = (N - (t + 1)) + 1 by omega, lk_spo] at hI
            rw [if_neg (by rw [show N - (t + 1) = N - 1 - t by omega]; assumption), hp] at hI
            exact ih (t + 1) i (j + 1) (so + (W 8 6 (k + 1) - V2 6 (k + 1))) _ (by omega) (by omega) hst hI (lk_frc_s2 hfr _ _) (by rw [lk_s2_c]; exact lk_near_tr hnr (lk_pas_ok hp (hW8.2.2.2 k hk6) hzq.1 hzq.2).1) (by rw [lk_s2_c]; exact lk_pas_cok hp hk hW8 hzq.1 hzq.2) (by omega)
          ·
            refine lk_callV (o := 8) (as := [lk_vi (nI (k)), lk_vi 0, lk_vi (σ 11 1 (qa j))]) (S := []) dX8_spentByOrder_85 rfl vX0_passage rfl lX8_198 rfl rfl (Nat.le_of_ble_eq_true rfl) (tX0_passage_no l X d W τ (c := 8) (k := (k)) (z := (σ 11 1 (qa j))) (b := false) (hc := rfl) (n := n) (hV := hW8) (hk := hk) (q := q9) (h := hp)) ?_
            refine lk_k3 ?_
            refine lk_cast (pc' := 88) (S' := [lk_vi (-2000002)]) rfl rfl rfl ?_
            refine lk_istore (L' := [(0, lk_vr 0 0), (1, lk_vi (nI (k))), (2, lk_vi (nI (m))), (3, lk_vi (so)), (4, lk_vi (nI (i))), (5, lk_vi (nI (j + 1))), (6, lk_vi (nI (t))), (7, lk_vi (if (m) / 2 ^ (N - 1 - (t)) % 2 = 0 then 1 else 0)), (8, lk_vi (nI ((qa j)))), (9, lk_vi (-2000002))]) dX8_spentByOrder_88 (by decide +kernel) rfl ?_
            refine lk_iload dX8_spentByOrder_90 rfl ?_
            refine lk_ldc dX8_spentByOrder_92 kX8_202 ?_
            refine lk_icmp_ne (tgt := 100) dX8_spentByOrder_94 (by decide) (fun hh4 => absurd hh4 (by intro q7; exact q7 rfl)) (fun hh4 => ?_)
            refine lk_ldc dX8_spentByOrder_97 kX8_202 ?_
            refine lk_iret .int dX8_spentByOrder_99 rfl rfl ?_
            rw [hQ]
            rw [show N - t = (N - (t + 1)) + 1 by omega, lk_spo] at hI
            first
              | rw [if_pos (by rw [show N - (t + 1) = N - 1 - t by omega]; assumption), hp] at hI
              | rw [if_neg (by rw [show N - (t + 1) = N - 1 - t by omega]; assumption), hp] at hI
            rw [hI]
            exact ⟨rfl, rfl, _, rfl, lk_frc_k hfr _, by rw [lk_so_ne (by decide)]; exact hnr, by rw [lk_so_ne (by decide)]; exact hW8⟩
        ·
          have hst : lk_onz (N - (t + 1)) m + j = A := by omega
          refine lk_aload_n dX8_spentByOrder_40 rfl rfl ?_
          refine lk_getO (f := 10) (o' := 15) dX8_spentByOrder_41 rfl fX8_47 (by decide) (by decide) rfl ?_
          refine lk_iload dX8_spentByOrder_44 rfl ?_
          refine lk_iincN (a := i) (m := 1) (L' := [(0, lk_vr 0 0), (1, lk_vi (nI (k))), (2, lk_vi (nI (m))), (3, lk_vi (so)), (4, lk_vi (nI (i + 1))), (5, lk_vi (nI (j))), (6, lk_vi (nI (t))), (7, lk_vi (if (m) / 2 ^ (N - 1 - (t)) % 2 = 0 then 1 else 0))]) dX8_spentByOrder_46 rfl rfl (by decide +kernel) rfl ?_
          refine lk_callV (o := 15) (as := [lk_vi (nI (i))]) (S := []) dX8_spentByOrder_49 rfl vX3_boatAt rfl lX8_228 rfl rfl (Nat.le_of_ble_eq_true rfl) (tX3_boatAt_in l X (d + 2) W τ (g := 15) (i := (i)) (hg := rfl) (hc := by rw [w15]; exact hgb) (hi := by omega) (hc22 := hcb) (hx := by rw [w15]; exact hqb i (by omega))) ?_
          refine lk_k3 ?_
          refine lk_cast (pc' := 52) (S' := [lk_vi (nI ((qb i)))]) rfl rfl rfl ?_
          refine lk_goto (tgt := 67) dX8_spentByOrder_52 (by decide) ?_
          refine lk_istore (L' := [(0, lk_vr 0 0), (1, lk_vi (nI (k))), (2, lk_vi (nI (m))), (3, lk_vi (so)), (4, lk_vi (nI (i + 1))), (5, lk_vi (nI (j))), (6, lk_vi (nI (t))), (7, lk_vi (if (m) / 2 ^ (N - 1 - (t)) % 2 = 0 then 1 else 0)), (8, lk_vi (nI ((qb i))))]) dX8_spentByOrder_67 (by decide +kernel) rfl ?_
          refine lk_aload_n dX8_spentByOrder_69 rfl rfl ?_
          refine lk_getO (f := 8) (o' := 8) dX8_spentByOrder_70 rfl fX8_38 (by decide) (by decide) rfl ?_
          refine lk_iload_n dX8_spentByOrder_73 rfl rfl ?_
          refine lk_iload dX8_spentByOrder_74 rfl ?_
          refine lk_eqtop (y := 1) (by first | rw [if_pos (by assumption)] | rw [if_neg (by assumption)]) ?_
          refine lk_aload_n dX8_spentByOrder_76 rfl rfl ?_
          refine lk_getO (f := 1) (o' := 11) dX8_spentByOrder_77 rfl fX8_21 (by decide) (by decide) rfl ?_
          refine lk_iload dX8_spentByOrder_80 rfl ?_
          refine lk_callV (o := 11) (as := [lk_vi (nI ((qb i)))]) (S := [lk_vi 1, lk_vi (nI (k)), lk_vr 8 0]) dX8_spentByOrder_82 rfl vX2_sizeOf rfl lX8_264 rfl rfl (Nat.le_of_ble_eq_true rfl) (tX2_sizeOf l X (d + 1) W τ (f := 11) (b := ((qb i))) (hf := rfl) (n := nf) (hn := by rw [w11]; exact hn) (hb := hqbn i (by omega)) (hn22 := by omega)) ?_
          refine lk_k3 ?_
          refine lk_cast (pc' := 85) (S' := [lk_vi (W 11 1 ((qb i))), lk_vi 1, lk_vi (nI (k)), lk_vr 8 0]) rfl rfl rfl ?_
          refine lk_eqtop (y := (σ 11 1 (qb i))) (by rw [w11]) ?_
          rcases hp : lk_pas (W 8) k true (σ 11 1 (qb i)) with V2 | q9
          ·
            have hzq := hz (qb i) (hqbn i (by omega))
            refine lk_callV (o := 8) (as := [lk_vi (nI (k)), lk_vi 1, lk_vi (σ 11 1 (qb i))]) (S := []) dX8_spentByOrder_85 rfl vX0_passage rfl lX8_198 rfl rfl (Nat.le_of_ble_eq_true rfl) (tX0_passage_ok l X d W τ (c := 8) (k := (k)) (z := (σ 11 1 (qb i))) (b := true) (hc := rfl) (n := n) (hV := hW8) (hk := hk) (V := V2) (h := hp)) ?_
            refine lk_k3 ?_
            refine lk_cast (pc' := 88) (S' := [lk_vi (W 8 6 ((k) + 1) - V2 6 ((k) + 1))]) rfl rfl rfl ?_
            refine lk_istore (L' := [(0, lk_vr 0 0), (1, lk_vi (nI (k))), (2, lk_vi (nI (m))), (3, lk_vi (so)), (4, lk_vi (nI (i + 1))), (5, lk_vi (nI (j))), (6, lk_vi (nI (t))), (7, lk_vi (if (m) / 2 ^ (N - 1 - (t)) % 2 = 0 then 1 else 0)), (8, lk_vi (nI ((qb i)))), (9, lk_vi (W 8 6 ((k) + 1) - V2 6 ((k) + 1)))]) dX8_spentByOrder_88 (by decide +kernel) rfl ?_
            refine lk_iload dX8_spentByOrder_90 rfl ?_
            refine lk_ldc dX8_spentByOrder_92 kX8_202 ?_
            refine lk_icmp_ne (tgt := 100) dX8_spentByOrder_94 (by decide) (fun hh5 => ?_) (fun hh5 => absurd hh5 (lk_sp_ne (lk_pas_ok hp (hW8.2.2.2 k hk6) hzq.1 hzq.2).2.2.1))
            refine lk_iload_n dX8_spentByOrder_100 rfl rfl ?_
            refine lk_iload dX8_spentByOrder_101 rfl ?_
            refine lk_iadd dX8_spentByOrder_103 ?_
            refine lk_istore_n (L' := [(0, lk_vr 0 0), (1, lk_vi (nI (k))), (2, lk_vi (nI (m))), (3, lk_vi ((so) + (W 8 6 ((k) + 1) - V2 6 ((k) + 1)))), (4, lk_vi (nI (i + 1))), (5, lk_vi (nI (j))), (6, lk_vi (nI (t))), (7, lk_vi (if (m) / 2 ^ (N - 1 - (t)) % 2 = 0 then 1 else 0)), (8, lk_vi (nI ((qb i)))), (9, lk_vi (W 8 6 ((k) + 1) - V2 6 ((k) + 1)))]) dX8_spentByOrder_104 rfl (by decide +kernel) rfl ?_
            refine lk_iincN (a := t) (m := 1) (L' := [(0, lk_vr 0 0), (1, lk_vi (nI (k))), (2, lk_vi (nI (m))), (3, lk_vi ((so) + (W 8 6 ((k) + 1) - V2 6 ((k) + 1)))), (4, lk_vi (nI (i + 1))), (5, lk_vi (nI (j))), (6, lk_vi (nI (t + 1))), (7, lk_vi (if (m) / 2 ^ (N - 1 - (t)) % 2 = 0 then 1 else 0)), (8, lk_vi (nI ((qb i)))), (9, lk_vi (W 8 6 ((k) + 1) - V2 6 ((k) + 1)))]) dX8_spentByOrder_105 rfl rfl (by decide +kernel) rfl ?_
            refine lk_goto (tgt := 11) dX8_spentByOrder_108 (by decide) ?_
            refine lk_sub (L' := [(0, lk_vr 0 0), (1, lk_vi (nI (k))), (2, lk_vi (nI (m))), (3, lk_vi ((so) + (W 8 6 ((k) + 1) - V2 6 ((k) + 1)))), (4, lk_vi (nI (i + 1))), (5, lk_vi (nI (j))), (6, lk_vi (nI (t + 1)))]) [0, 1, 2, 3, 4, 5, 6] rfl ?_
            rw [show N - t = (N - (t + 1)) + 1 by omega, lk_spo] at hI
            rw [if_pos (by rw [show N - (t + 1) = N - 1 - t by omega]; assumption), hp] at hI
            exact ih (t + 1) (i + 1) j (so + (W 8 6 (k + 1) - V2 6 (k + 1))) _ (by omega) (by omega) hst hI (lk_frc_s2 hfr _ _) (by rw [lk_s2_c]; exact lk_near_tr hnr (lk_pas_ok hp (hW8.2.2.2 k hk6) hzq.1 hzq.2).1) (by rw [lk_s2_c]; exact lk_pas_cok hp hk hW8 hzq.1 hzq.2) (by omega)
          ·
            refine lk_callV (o := 8) (as := [lk_vi (nI (k)), lk_vi 1, lk_vi (σ 11 1 (qb i))]) (S := []) dX8_spentByOrder_85 rfl vX0_passage rfl lX8_198 rfl rfl (Nat.le_of_ble_eq_true rfl) (tX0_passage_no l X d W τ (c := 8) (k := (k)) (z := (σ 11 1 (qb i))) (b := true) (hc := rfl) (n := n) (hV := hW8) (hk := hk) (q := q9) (h := hp)) ?_
            refine lk_k3 ?_
            refine lk_cast (pc' := 88) (S' := [lk_vi (-2000002)]) rfl rfl rfl ?_
            refine lk_istore (L' := [(0, lk_vr 0 0), (1, lk_vi (nI (k))), (2, lk_vi (nI (m))), (3, lk_vi (so)), (4, lk_vi (nI (i + 1))), (5, lk_vi (nI (j))), (6, lk_vi (nI (t))), (7, lk_vi (if (m) / 2 ^ (N - 1 - (t)) % 2 = 0 then 1 else 0)), (8, lk_vi (nI ((qb i)))), (9, lk_vi (-2000002))]) dX8_spentByOrder_88 (by decide +kernel) rfl ?_
            refine lk_iload dX8_spentByOrder_90 rfl ?_
            refine lk_ldc dX8_spentByOrder_92 kX8_202 ?_
            refine lk_icmp_ne (tgt := 100) dX8_spentByOrder_94 (by decide) (fun hh6 => absurd hh6 (by intro q7; exact q7 rfl)) (fun hh6 => ?_)
            refine lk_ldc dX8_spentByOrder_97 kX8_202 ?_
            refine lk_iret .int dX8_spentByOrder_99 rfl rfl ?_
            rw [hQ]
            rw [show N - t = (N - (t + 1)) + 1 by omega, lk_spo] at hI
            first
              | rw [if_pos (by rw [show N - (t + 1) = N - 1 - t by omega]; assumption), hp] at hI
              | rw [if_neg (by rw [show N - (t + 1) = N - 1 - t by omega]; assumption), hp] at hI
            rw [hI]
            exact ⟨rfl, rfl, _, rfl, lk_frc_k hfr _, by rw [lk_so_ne (by decide)]; exact hnr, by rw [lk_so_ne (by decide)]; exact hW8⟩
  exact LP11 (N + 1) 0 0 0 0 σ (by omega) rfl (by rw [Nat.sub_zero]; exact hon) hR (fun _ _ _ _ => rfl) (lk_near_rf _ _) hV (by omega)
