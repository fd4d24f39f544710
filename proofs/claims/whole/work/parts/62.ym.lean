theorem lk_sw_at (σ : lk_N) (o f : Nat) (R : Nat → Int32) (i : Nat) : lk_sw σ o f R o f i = R i := by simp [lk_sw]
def lk_rw (W : Nat → Int32) (i : Nat) (v : Int32) : Nat → Int32 := fun j => if j = i then v else W j
theorem lk_up_sw (σ : lk_N) (f : Nat) (W : Nat → Int32) (i : Nat) (v : Int32) : lk_up (lk_sw σ 1 f W) 1 f i v = lk_sw σ 1 f (lk_rw W i v) := by
  funext a b j
  simp only [lk_up, lk_sw, lk_rw]
  grind
/-- the boats that the model has -/
def lk_bv (σ : lk_N) (B : lk_O) (nf : Nat) : Prop := ∀ b, b < nf → σ 1 0 (54 + b) = B 0 b ∧ σ 1 0 (66 + b) = B 1 b ∧ σ 1 0 (78 + b) = B 2 b ∧ σ 1 0 (90 + b) = B 3 b ∧ σ 1 0 (102 + b) = B 4 b
theorem lk_bv_e {σ W : lk_N} {B : lk_O} {nf : Nat} (h : W 1 0 = σ 1 0) (hB : lk_bv σ B nf) : lk_bv W B nf := by unfold lk_bv; rw [h]; exact hB
/-- the model's queues -/
def lk_lq (W : lk_N) (g h : Nat × (Nat → Nat)) : Prop := W 1 18 0 = nI g.1 ∧ W 1 19 0 = nI h.1 ∧ (∀ i, i < g.1 → W 1 20 i = nI (g.2 i)) ∧ ∀ i, i < h.1 → W 1 21 i = nI (h.2 i)
theorem lk_fx_sw {S : List Nat} {σ W : lk_N} {f : Nat} {R : Nat → Int32} (h : lk_fx S σ W) (hf : f ∈ S) : lk_fx S σ (lk_sw W 1 f R) := fun o g j hn => by
  simp only [lk_sw]
  rw [if_neg (by rintro ⟨rfl, rfl⟩; exact hn ⟨rfl, hf⟩)]
  exact h o g j hn
theorem lk_nim_ge {k : Nat} (h : k < 2147483648) : ¬ ¬ (-2 : Int32) ≤ nI k := by
  intro q; apply q; apply Int32.le_iff_toInt_le.mpr
  rw [nI_toInt h, show (-2 : Int32).toInt = -2 from rfl]; omega
set_option maxHeartbeats 1000000 in
set_option maxRecDepth 100000 in
theorem tX9_queues_20 (l : Launch) (X : lk_G) (d : Nat) (σ : lk_N) (τ : lk_T) (V T : lk_O) (B : lk_O) (nf : Nat) (hn : σ 1 0 114 = nI nf) (hn12 : nf ≤ 12) (hB : lk_bv σ B nf) (r u : Int32) : lk_Mt l X mX9_queues d [lk_vr 1 0, lk_vi (r), lk_vi (u), lk_vr 1 21] (lk_ms σ V T) τ (fun rr σ1 τ1 => rr = some (lk_vi (nI (lk_gat B r u nf).1)) ∧ τ1 = τ ∧ ∃ W : Nat → Int32, σ1 = lk_ms (lk_sw σ 1 20 W) V T ∧ ∀ i, i < (lk_gat B r u nf).1 → W i = nI ((lk_gat B r u nf).2 i)) := by
  refine lk_met (L := [(0, lk_vr 1 0), (1, lk_vi (r)), (2, lk_vi (u)), (3, lk_vr 1 21)]) (by decide +kernel) (Nat.le_of_ble_eq_true rfl) rfl ?_
  obtain ⟨Q, hQ⟩ : ∃ Q : lk_Q, Q = fun rr σ1 τ1 => rr = some (lk_vi (nI (lk_gat B r u nf).1)) ∧ τ1 = τ ∧ ∃ W : Nat → Int32, σ1 = lk_ms (lk_sw σ 1 20 W) V T ∧ ∀ i, i < (lk_gat B r u nf).1 → W i = nI ((lk_gat B r u nf).2 i) := ⟨_, rfl⟩
  rw [← hQ]
  refine lk_iconst (v := 0) dX9_queues_0 (by decide) ?_
  refine lk_istore (L' := [(0, lk_vr 1 0), (1, lk_vi (r)), (2, lk_vi (u)), (3, lk_vr 1 21), (4, lk_vi 0)]) dX9_queues_1 (by decide +kernel) rfl ?_
  refine lk_iconst (v := 0) dX9_queues_3 (by decide) ?_
  refine lk_istore (L' := [(0, lk_vr 1 0), (1, lk_vi (r)), (2, lk_vi (u)), (3, lk_vr 1 21), (4, lk_vi 0), (5, lk_vi 0)]) dX9_queues_4 (by decide +kernel) rfl ?_
  have LP6 : ∀ (fu : Nat) (m : Nat) (W : Nat → Int32), m ≤ nf → (∀ i, i < (lk_gat B r u m).1 → W i = nI ((lk_gat B r u m).2 i)) → nf - m < fu → lk_W l X mX9_queues d 6 [(0, lk_vr 1 0), (1, lk_vi (r)), (2, lk_vi (u)), (3, lk_vr 1 21), (4, lk_vi (nI ((lk_gat B r u m).1))), (5, lk_vi (nI (m)))] [] (lk_ms (lk_sw σ 1 20 W) V T) τ Q := by
    intro fu
    induction fu with
    | zero => intro m W hm hWq hfu; exact absurd hfu (by omega)
    | succ fu ih =>
      intro m W hm hWq hfu
      refine lk_iload dX9_queues_6 rfl ?_
      refine lk_aload_n dX9_queues_8 rfl rfl ?_
      refine lk_getR (f := 0) dX9_queues_9 rfl fX9_9 (by decide) (by decide) ?_
      refine lk_bipush (v := 114) dX9_queues_12 (by decide) ?_
      refine lk_ialdN (f := 0) (i := 114) dX9_queues_14 rfl (by decide) rfl (by omega) (by decide) ?_
      refine lk_eqtop (y := (nI (nf))) ((lk_rB (by decide)).trans hn) ?_
      refine lk_icmp_geN (a := m) (b := nf) (tgt := 116) dX9_queues_15 (by decide) (by omega) (by omega) (fun hh1 => ?_) (fun hh1 => ?_)
      ·
        refine lk_iload dX9_queues_116 rfl ?_
        refine lk_iret .int dX9_queues_118 rfl rfl ?_
        rw [hQ]
        have hmn : m = nf := by omega
        subst hmn
        exact ⟨rfl, rfl, W, rfl, hWq⟩
      ·
        refine lk_aload_n dX9_queues_18 rfl rfl ?_
        refine lk_getR (f := 0) dX9_queues_19 rfl fX9_9 (by decide) (by decide) ?_
        refine lk_bipush (v := 102) dX9_queues_22 (by decide) ?_
        refine lk_iload dX9_queues_24 rfl ?_
        refine lk_iaddN (a := 102) (b := m) dX9_queues_26 ?_
        refine lk_ialdN (f := 0) (i := 102 + m) dX9_queues_27 rfl (by decide) rfl (by omega) (by decide) ?_
        refine lk_eqtop (y := (B 4 m)) ((lk_rB (by omega)).trans (hB (m) (by omega)).2.2.2.2) ?_
        refine lk_iload_n dX9_queues_28 rfl rfl ?_
        refine lk_icmp_ne (tgt := 110) dX9_queues_29 (by decide) (fun hh2 => ?_) (fun hh2 => ?_)
        ·
          refine lk_iincN (a := m) (m := 1) (L' := [(0, lk_vr 1 0), (1, lk_vi (r)), (2, lk_vi (u)), (3, lk_vr 1 21), (4, lk_vi (nI ((lk_gat B r u m).1))), (5, lk_vi (nI (m + 1)))]) dX9_queues_110 rfl rfl (by decide +kernel) rfl ?_
          refine lk_goto (tgt := 6) dX9_queues_113 (by decide) ?_
          have hs : lk_gat B r u (m + 1) = lk_gat B r u m := by
            rw [lk_gat, if_neg (by rintro ⟨z1, z2⟩; contradiction)]
          refine lk_cast (L' := [(0, lk_vr 1 0), (1, lk_vi (r)), (2, lk_vi (u)), (3, lk_vr 1 21), (4, lk_vi (nI ((lk_gat B r u (m + 1)).1))), (5, lk_vi (nI (m + 1)))]) rfl (by rw [hs]) rfl ?_
          exact ih (m + 1) W (by omega) (by rw [hs]; exact hWq) (by omega)
        ·
          refine lk_aload_n dX9_queues_32 rfl rfl ?_
          refine lk_getR (f := 0) dX9_queues_33 rfl fX9_9 (by decide) (by decide) ?_
          refine lk_bipush (v := 90) dX9_queues_36 (by decide) ?_
          refine lk_iload dX9_queues_38 rfl ?_
          refine lk_iaddN (a := 90) (b := m) dX9_queues_40 ?_
          refine lk_ialdN (f := 0) (i := 90 + m) dX9_queues_41 rfl (by decide) rfl (by omega) (by decide) ?_
          refine lk_eqtop (y := (B 3 m)) ((lk_rB (by omega)).trans (hB (m) (by omega)).2.2.2.1) ?_
          refine lk_iload_n dX9_queues_42 rfl rfl ?_
          refine lk_icmp_eq (tgt := 49) dX9_queues_43 (by decide) (fun hh3 => ?_) (fun hh3 => ?_)
          ·
            have hgl := lk_gat_le B r u m
            have ih6 := ih
            obtain ⟨R, hR⟩ : ∃ R, R = lk_sft (B 2) m (lk_gat B r u m).1 (lk_gat B r u m).2 := ⟨_, rfl⟩
            refine lk_iload dX9_queues_49 rfl ?_
            refine lk_istore (L' := [(0, lk_vr 1 0), (1, lk_vi (r)), (2, lk_vi (u)), (3, lk_vr 1 21), (4, lk_vi (nI ((lk_gat B r u m).1))), (5, lk_vi (nI (m))), (6, lk_vi (nI ((lk_gat B r u m).1)))]) dX9_queues_51 (by decide +kernel) rfl ?_
            have LP53 : ∀ (fu : Nat) (p : Nat) (W : Nat → Int32) (q2 : Nat → Nat), p ≤ (lk_gat B r u m).1 → (∀ i, i < (lk_gat B r u m).1 + 1 → i ≠ p → W i = nI (q2 i)) → (∀ i, i < p → q2 i < nf) → R = lk_sft (B 2) m p q2 → p < fu → lk_W l X mX9_queues d 53 [(0, lk_vr 1 0), (1, lk_vi (r)), (2, lk_vi (u)), (3, lk_vr 1 21), (4, lk_vi (nI ((lk_gat B r u m).1))), (5, lk_vi (nI (m))), (6, lk_vi (nI (p)))] [] (lk_ms (lk_sw σ 1 20 W) V T) τ Q := by
              intro fu
              induction fu with
              | zero => intro p W q2 hp hw hqn2 hI hfu; exact absurd hfu (by omega)
              | succ fu ih =>
                intro p W q2 hp hw hqn2 hI hfu
                have hw1 : ∀ i, i < p → W i = nI (q2 i) := fun i h => hw i (by omega) (by omega)
                refine lk_iload dX9_queues_53 rfl ?_
                refine lk_if_leN (a := p) (tgt := 101) dX9_queues_55 (by decide) (by omega) (fun hh4 => ?_) (fun hh4 => ?_)
                ·
                  refine lk_aload_n dX9_queues_101 rfl rfl ?_
                  refine lk_iload dX9_queues_102 rfl ?_
                  refine lk_iload dX9_queues_104 rfl ?_
                  refine lk_iastN (f := 20) (i := p) (v := (nI (m))) dX9_queues_106 rfl (by decide) rfl (by omega) (by decide) ?_
                  refine lk_sg (σ' := (lk_ms (lk_up (lk_sw σ 1 20 W) 1 20 (p) (nI (m))) V T)) (lk_wf (by decide)) ?_
                  refine lk_iincN (a := (lk_gat B r u m).1) (m := 1) (L' := [(0, lk_vr 1 0), (1, lk_vi (r)), (2, lk_vi (u)), (3, lk_vr 1 21), (4, lk_vi (nI ((lk_gat B r u m).1 + 1))), (5, lk_vi (nI (m))), (6, lk_vi (nI (p)))]) dX9_queues_107 rfl rfl (by decide +kernel) rfl ?_
                  refine lk_iincN (a := m) (m := 1) (L' := [(0, lk_vr 1 0), (1, lk_vi (r)), (2, lk_vi (u)), (3, lk_vr 1 21), (4, lk_vi (nI ((lk_gat B r u m).1 + 1))), (5, lk_vi (nI (m + 1))), (6, lk_vi (nI (p)))]) dX9_queues_110 rfl rfl (by decide +kernel) rfl ?_
                  refine lk_goto (tgt := 6) dX9_queues_113 (by decide) ?_
                  refine lk_sub (L' := [(0, lk_vr 1 0), (1, lk_vi (r)), (2, lk_vi (u)), (3, lk_vr 1 21), (4, lk_vi (nI ((lk_gat B r u m).1 + 1))), (5, lk_vi (nI (m + 1)))]) [0, 1, 2, 3, 4, 5] rfl ?_
                  have hs : lk_gat B r u (m + 1) = ((lk_gat B r u m).1 + 1, lk_sft (B 2) m (lk_gat B r u m).1 (lk_gat B r u m).2) := by
                    rw [lk_gat, if_pos ⟨by assumption, by assumption⟩]
                  have hRp : R = va_up q2 p m := by
                    by_cases e : p = 0
                    · rw [hI, e]; rfl
                    · have hp1 : p = (p - 1) + 1 := by omega
                      rw [hI, hp1, lk_sft, if_neg (by first | (exfalso; omega) | exact Int32.not_lt.mpr (by assumption))]
                      try simp
                  rw [lk_up_sw]
                  refine lk_cast (L' := [(0, lk_vr 1 0), (1, lk_vi (r)), (2, lk_vi (u)), (3, lk_vr 1 21), (4, lk_vi (nI ((lk_gat B r u (m + 1)).1))), (5, lk_vi (nI (m + 1)))]) rfl (by rw [hs]) rfl ?_
                  refine ih6 (m + 1) _ (by omega) ?_ (by omega)
                  rw [hs]
                  intro i hi
                  have hsr : lk_sft (B 2) m (lk_gat B r u m).1 (lk_gat B r u m).2 = va_up q2 p m := by rw [← hR, hRp]
                  simp only [hsr, lk_rw, va_up]
                  split
                  · rfl
                  · rename_i e; exact hw i hi e
                ·
                  have hqp := hqn2 (p - 1) (by omega)
                  refine lk_aload_n dX9_queues_58 rfl rfl ?_
                  refine lk_getR (f := 0) dX9_queues_59 rfl fX9_9 (by decide) (by decide) ?_
                  refine lk_bipush (v := 78) dX9_queues_62 (by decide) ?_
                  refine lk_aload_n dX9_queues_64 rfl rfl ?_
                  refine lk_iload dX9_queues_65 rfl ?_
                  refine lk_iconst (v := 1) dX9_queues_67 (by decide) ?_
                  refine lk_isubN (a := p) (b := 1) dX9_queues_68 (by omega) ?_
                  refine lk_ialdN (f := 20) (i := (p) - (1)) dX9_queues_69 rfl (by decide) rfl (by omega) (by decide) ?_
                  refine lk_eqtop (y := (nI (q2 (p - 1)))) ((lk_rf (by decide)).trans ((lk_sw_at _ _ _ _ _).trans (hw1 (p - 1) (by omega)))) ?_
                  refine lk_iaddN (a := 78) (b := q2 (p - 1)) dX9_queues_70 ?_
                  refine lk_ialdN (f := 0) (i := 78 + q2 (p - 1)) dX9_queues_71 rfl (by decide) rfl (by omega) (by decide) ?_
                  refine lk_eqtop (y := (B 2 (q2 (p - 1)))) ((lk_rB (by omega)).trans (hB (q2 (p - 1)) (by omega)).2.2.1) ?_
                  refine lk_aload_n dX9_queues_72 rfl rfl ?_
                  refine lk_getR (f := 0) dX9_queues_73 rfl fX9_9 (by decide) (by decide) ?_
                  refine lk_bipush (v := 78) dX9_queues_76 (by decide) ?_
                  refine lk_iload dX9_queues_78 rfl ?_
                  refine lk_iaddN (a := 78) (b := m) dX9_queues_80 ?_
                  refine lk_ialdN (f := 0) (i := 78 + m) dX9_queues_81 rfl (by decide) rfl (by omega) (by decide) ?_
                  refine lk_eqtop (y := (B 2 m)) ((lk_rB (by omega)).trans (hB (m) (by omega)).2.2.1) ?_
                  refine lk_icmp_ge (tgt := 101) dX9_queues_82 (by decide) (fun hh5 => ?_) (fun hh5 => ?_)
                  ·
                    refine lk_aload_n dX9_queues_101 rfl rfl ?_
                    refine lk_iload dX9_queues_102 rfl ?_
                    refine lk_iload dX9_queues_104 rfl ?_
                    refine lk_iastN (f := 20) (i := p) (v := (nI (m))) dX9_queues_106 rfl (by decide) rfl (by omega) (by decide) ?_
                    refine lk_sg (σ' := (lk_ms (lk_up (lk_sw σ 1 20 W) 1 20 (p) (nI (m))) V T)) (lk_wf (by decide)) ?_
                    refine lk_iincN (a := (lk_gat B r u m).1) (m := 1) (L' := [(0, lk_vr 1 0), (1, lk_vi (r)), (2, lk_vi (u)), (3, lk_vr 1 21), (4, lk_vi (nI ((lk_gat B r u m).1 + 1))), (5, lk_vi (nI (m))), (6, lk_vi (nI (p)))]) dX9_queues_107 rfl rfl (by decide +kernel) rfl ?_
                    refine lk_iincN (a := m) (m := 1) (L' := [(0, lk_vr 1 0), (1, lk_vi (r)), (2, lk_vi (u)), (3, lk_vr 1 21), (4, lk_vi (nI ((lk_gat B r u m).1 + 1))), (5, lk_vi (nI (m + 1))), (6, lk_vi (nI (p)))]) dX9_queues_110 rfl rfl (by decide +kernel) rfl ?_
                    refine lk_goto (tgt := 6) dX9_queues_113 (by decide) ?_
                    refine lk_sub (L' := [(0, lk_vr 1 0), (1, lk_vi (r)), (2, lk_vi (u)), (3, lk_vr 1 21), (4, lk_vi (nI ((lk_gat B r u m).1 + 1))), (5, lk_vi (nI (m + 1)))]) [0, 1, 2, 3, 4, 5] rfl ?_
                    have hs : lk_gat B r u (m + 1) = ((lk_gat B r u m).1 + 1, lk_sft (B 2) m (lk_gat B r u m).1 (lk_gat B r u m).2) := by
                      rw [lk_gat, if_pos ⟨by assumption, by assumption⟩]
                    have hRp : R = va_up q2 p m := by
                      by_cases e : p = 0
                      · rw [hI, e]; rfl
                      · have hp1 : p = (p - 1) + 1 := by omega
                        rw [hI, hp1, lk_sft, if_neg (by first | (exfalso; omega) | exact Int32.not_lt.mpr (by assumption))]
                        try simp
                    rw [lk_up_sw]
                    refine lk_cast (L' := [(0, lk_vr 1 0), (1, lk_vi (r)), (2, lk_vi (u)), (3, lk_vr 1 21), (4, lk_vi (nI ((lk_gat B r u (m + 1)).1))), (5, lk_vi (nI (m + 1)))]) rfl (by rw [hs]) rfl ?_
                    refine ih6 (m + 1) _ (by omega) ?_ (by omega)
                    rw [hs]
                    intro i hi
                    have hsr : lk_sft (B 2) m (lk_gat B r u m).1 (lk_gat B r u m).2 = va_up q2 p m := by rw [← hR, hRp]
                    simp only [hsr, lk_rw, va_up]
                    split
                    · rfl
                    · rename_i e; exact hw i hi e
                  ·
                    refine lk_aload_n dX9_queues_85 rfl rfl ?_
                    refine lk_iload dX9_queues_86 rfl ?_
                    refine lk_aload_n dX9_queues_88 rfl rfl ?_
                    refine lk_iload dX9_queues_89 rfl ?_
                    refine lk_iconst (v := 1) dX9_queues_91 (by decide) ?_
                    refine lk_isubN (a := p) (b := 1) dX9_queues_92 (by omega) ?_
                    refine lk_ialdN (f := 20) (i := (p) - (1)) dX9_queues_93 rfl (by decide) rfl (by omega) (by decide) ?_
                    refine lk_eqtop (y := (nI (q2 (p - 1)))) ((lk_rf (by decide)).trans ((lk_sw_at _ _ _ _ _).trans (hw1 (p - 1) (by omega)))) ?_
                    refine lk_iastN (f := 20) (i := p) (v := (nI (q2 (p - 1)))) dX9_queues_94 rfl (by decide) rfl (by omega) (by decide) ?_
                    refine lk_sg (σ' := (lk_ms (lk_up (lk_sw σ 1 20 W) 1 20 (p) (nI (q2 (p - 1)))) V T)) (lk_wf (by decide)) ?_
                    refine lk_idecN (a := p) (m := 1) (L' := [(0, lk_vr 1 0), (1, lk_vi (r)), (2, lk_vi (u)), (3, lk_vr 1 21), (4, lk_vi (nI ((lk_gat B r u m).1))), (5, lk_vi (nI (m))), (6, lk_vi (nI (p - 1)))]) dX9_queues_95 rfl rfl (by omega) (by decide +kernel) rfl ?_
                    refine lk_goto (tgt := 53) dX9_queues_98 (by decide) ?_
                    rw [lk_up_sw]
                    have hp1 : p = (p - 1) + 1 := by omega
                    rw [hp1, lk_sft, if_pos (by first | assumption | exact Int32.not_le.mp (by assumption))] at hI
                    refine ih (p - 1) _ _ (by omega) ?_ ?_ hI (by omega)
                    · intro i h1 h2
                      by_cases e : i = p
                      · subst e; simp [lk_rw, va_up]; try (rw [← hp1]; simp)
                      · have e2 : ¬ i = p - 1 + 1 := by omega
                        simp only [lk_rw, va_up]
                        rw [if_neg (by omega), if_neg e2]
                        exact hw i h1 e
                    · intro i h1
                      simp only [va_up]
                      rw [if_neg (by omega)]
                      exact hqn2 i (by omega)
            exact LP53 ((lk_gat B r u m).1 + 1) (lk_gat B r u m).1 W _ (Nat.le_refl _) (fun i h1 h2 => hWq i (by omega)) (fun i h => Nat.lt_of_lt_of_le (lk_gat_lt B r u m i h) (by omega)) hR (by omega)
          ·
            refine lk_goto (tgt := 110) dX9_queues_46 (by decide) ?_
            refine lk_iincN (a := m) (m := 1) (L' := [(0, lk_vr 1 0), (1, lk_vi (r)), (2, lk_vi (u)), (3, lk_vr 1 21), (4, lk_vi (nI ((lk_gat B r u m).1))), (5, lk_vi (nI (m + 1)))]) dX9_queues_110 rfl rfl (by decide +kernel) rfl ?_
            refine lk_goto (tgt := 6) dX9_queues_113 (by decide) ?_
            have hs : lk_gat B r u (m + 1) = lk_gat B r u m := by
              rw [lk_gat, if_neg (by rintro ⟨z1, z2⟩; contradiction)]
            refine lk_cast (L' := [(0, lk_vr 1 0), (1, lk_vi (r)), (2, lk_vi (u)), (3, lk_vr 1 21), (4, lk_vi (nI ((lk_gat B r u (m + 1)).1))), (5, lk_vi (nI (m + 1)))]) rfl (by rw [hs]) rfl ?_
            exact ih (m + 1) W (by omega) (by rw [hs]; exact hWq) (by omega)
  refine lk_sg (σ' := lk_ms (lk_sw σ 1 20 (σ 1 20)) V T) (by rw [lk_sw_self]) ?_
  exact LP6 (nf + 1) 0 _ (Nat.zero_le _) (fun i h => absurd h (Nat.not_lt_zero i)) (by omega)

set_option maxHeartbeats 1000000 in
set_option maxRecDepth 100000 in
theorem tX9_queues_21 (l : Launch) (X : lk_G) (d : Nat) (σ : lk_N) (τ : lk_T) (V T : lk_O) (B : lk_O) (nf : Nat) (hn : σ 1 0 114 = nI nf) (hn12 : nf ≤ 12) (hB : lk_bv σ B nf) (r u : Int32) : lk_Mt l X mX9_queues d [lk_vr 1 0, lk_vi (r), lk_vi (u), lk_vr 1 22] (lk_ms σ V T) τ (fun rr σ1 τ1 => rr = some (lk_vi (nI (lk_gat B r u nf).1)) ∧ τ1 = τ ∧ ∃ W : Nat → Int32, σ1 = lk_ms (lk_sw σ 1 21 W) V T ∧ ∀ i, i < (lk_gat B r u nf).1 → W i = nI ((lk_gat B r u nf).2 i)) := by
  refine lk_met (L := [(0, lk_vr 1 0), (1, lk_vi (r)), (2, lk_vi (u)), (3, lk_vr 1 22)]) (by decide +kernel) (Nat.le_of_ble_eq_true rfl) rfl ?_
  obtain ⟨Q, hQ⟩ : ∃ Q : lk_Q, Q = fun rr σ1 τ1 => rr = some (lk_vi (nI (lk_gat B r u nf).1)) ∧ τ1 = τ ∧ ∃ W : Nat → Int32, σ1 = lk_ms (lk_sw σ 1 21 W) V T ∧ ∀ i, i < (lk_gat B r u nf).1 → W i = nI ((lk_gat B r u nf).2 i) := ⟨_, rfl⟩
  rw [← hQ]
  refine lk_iconst (v := 0) dX9_queues_0 (by decide) ?_
  refine lk_istore (L' := [(0, lk_vr 1 0), (1, lk_vi (r)), (2, lk_vi (u)), (3, lk_vr 1 22), (4, lk_vi 0)]) dX9_queues_1 (by decide +kernel) rfl ?_
  refine lk_iconst (v := 0) dX9_queues_3 (by decide) ?_
  refine lk_istore (L' := [(0, lk_vr 1 0), (1, lk_vi (r)), (2, lk_vi (u)), (3, lk_vr 1 22), (4, lk_vi 0), (5, lk_vi 0)]) dX9_queues_4 (by decide +kernel) rfl ?_
  have LP6 : ∀ (fu : Nat) (m : Nat) (W : Nat → Int32), m ≤ nf → (∀ i, i < (lk_gat B r u m).1 → W i = nI ((lk_gat B r u m).2 i)) → nf - m < fu → lk_W l X mX9_queues d 6 [(0, lk_vr 1 0), (1, lk_vi (r)), (2, lk_vi (u)), (3, lk_vr 1 22), (4, lk_vi (nI ((lk_gat B r u m).1))), (5, lk_vi (nI (m)))] [] (lk_ms (lk_sw σ 1 21 W) V T) τ Q := by
    intro fu
    induction fu with
    | zero => intro m W hm hWq hfu; exact absurd hfu (by omega)
    | succ fu ih =>
      intro m W hm hWq hfu
      refine lk_iload dX9_queues_6 rfl ?_
      refine lk_aload_n dX9_queues_8 rfl rfl ?_
      refine lk_getR (f := 0) dX9_queues_9 rfl fX9_9 (by decide) (by decide) ?_
      refine lk_bipush (v := 114) dX9_queues_12 (by decide) ?_
      refine lk_ialdN (f := 0) (i := 114) dX9_queues_14 rfl (by decide) rfl (by omega) (by decide) ?_
      refine lk_eqtop (y := (nI (nf))) ((lk_rB (by decide)).trans hn) ?_
      refine lk_icmp_geN (a := m) (b := nf) (tgt := 116) dX9_queues_15 (by decide) (by omega) (by omega) (fun hh1 => ?_) (fun hh1 => ?_)
      ·
        refine lk_iload dX9_queues_116 rfl ?_
        refine lk_iret .int dX9_queues_118 rfl rfl ?_
        rw [hQ]
        have hmn : m = nf := by omega
        subst hmn
        exact ⟨rfl, rfl, W, rfl, hWq⟩
      ·
        refine lk_aload_n dX9_queues_18 rfl rfl ?_
        refine lk_getR (f := 0) dX9_queues_19 rfl fX9_9 (by decide) (by decide) ?_
        refine lk_bipush (v := 102) dX9_queues_22 (by decide) ?_
        refine lk_iload dX9_queues_24 rfl ?_
        refine lk_iaddN (a := 102) (b := m) dX9_queues_26 ?_
        refine lk_ialdN (f := 0) (i := 102 + m) dX9_queues_27 rfl (by decide) rfl (by omega) (by decide) ?_
        refine lk_eqtop (y := (B 4 m)) ((lk_rB (by omega)).trans (hB (m) (by omega)).2.2.2.2) ?_
        refine lk_iload_n dX9_queues_28 rfl rfl ?_
        refine lk_icmp_ne (tgt := 110) dX9_queues_29 (by decide) (fun hh2 => ?_) (fun hh2 => ?_)
        ·
          refine lk_iincN (a := m) (m := 1) (L' := [(0, lk_vr 1 0), (1, lk_vi (r)), (2, lk_vi (u)), (3, lk_vr 1 22), (4, lk_vi (nI ((lk_gat B r u m).1))), (5, lk_vi (nI (m + 1)))]) dX9_queues_110 rfl rfl (by decide +kernel) rfl ?_
          refine lk_goto (tgt := 6) dX9_queues_113 (by decide) ?_
          have hs : lk_gat B r u (m + 1) = lk_gat B r u m := by
            rw [lk_gat, if_neg (by rintro ⟨z1, z2⟩; contradiction)]
          refine lk_cast (L' := [(0, lk_vr 1 0), (1, lk_vi (r)), (2, lk_vi (u)), (3, lk_vr 1 22), (4, lk_vi (nI ((lk_gat B r u (m + 1)).1))), (5, lk_vi (nI (m + 1)))]) rfl (by rw [hs]) rfl ?_
          exact ih (m + 1) W (by omega) (by rw [hs]; exact hWq) (by omega)
        ·
          refine lk_aload_n dX9_queues_32 rfl rfl ?_
          refine lk_getR (f := 0) dX9_queues_33 rfl fX9_9 (by decide) (by decide) ?_
          refine lk_bipush (v := 90) dX9_queues_36 (by decide) ?_
          refine lk_iload dX9_queues_38 rfl ?_
          refine lk_iaddN (a := 90) (b := m) dX9_queues_40 ?_
          refine lk_ialdN (f := 0) (i := 90 + m) dX9_queues_41 rfl (by decide) rfl (by omega) (by decide) ?_
          refine lk_eqtop (y := (B 3 m)) ((lk_rB (by omega)).trans (hB (m) (by omega)).2.2.2.1) ?_
          refine lk_iload_n dX9_queues_42 rfl rfl ?_
          refine lk_icmp_eq (tgt := 49) dX9_queues_43 (by decide) (fun hh3 => ?_) (fun hh3 => ?_)
          ·
            have hgl := lk_gat_le B r u m
            have ih6 := ih
            obtain ⟨R, hR⟩ : ∃ R, R = lk_sft (B 2) m (lk_gat B r u m).1 (lk_gat B r u m).2 := ⟨_, rfl⟩
            refine lk_iload dX9_queues_49 rfl ?_
            refine lk_istore (L' := [(0, lk_vr 1 0), (1, lk_vi (r)), (2, lk_vi (u)), (3, lk_vr 1 22), (4, lk_vi (nI ((lk_gat B r u m).1))), (5, lk_vi (nI (m))), (6, lk_vi (nI ((lk_gat B r u m).1)))]) dX9_queues_51 (by decide +kernel) rfl ?_
            have LP53 : ∀ (fu : Nat) (p : Nat) (W : Nat → Int32) (q2 : Nat → Nat), p ≤ (lk_gat B r u m).1 → (∀ i, i < (lk_gat B r u m).1 + 1 → i ≠ p → W i = nI (q2 i)) → (∀ i, i < p → q2 i < nf) → R = lk_sft (B 2) m p q2 → p < fu → lk_W l X mX9_queues d 53 [(0, lk_vr 1 0), (1, lk_vi (r)), (2, lk_vi (u)), (3, lk_vr 1 22), (4, lk_vi (nI ((lk_gat B r u m).1))), (5, lk_vi (nI (m))), (6, lk_vi (nI (p)))] [] (lk_ms (lk_sw σ 1 21 W) V T) τ Q := by
              intro fu
              induction fu with
              | zero => intro p W q2 hp hw hqn2 hI hfu; exact absurd hfu (by omega)
              | succ fu ih =>
                intro p W q2 hp hw hqn2 hI hfu
                have hw1 : ∀ i, i < p → W i = nI (q2 i) := fun i h => hw i (by omega) (by omega)
                refine lk_iload dX9_queues_53 rfl ?_
                refine lk_if_leN (a := p) (tgt := 101) dX9_queues_55 (by decide) (by omega) (fun hh4 => ?_) (fun hh4 => ?_)
                ·
                  refine lk_aload_n dX9_queues_101 rfl rfl ?_
                  refine lk_iload dX9_queues_102 rfl ?_
                  refine lk_iload dX9_queues_104 rfl ?_
                  refine lk_iastN (f := 21) (i := p) (v := (nI (m))) dX9_queues_106 rfl (by decide) rfl (by omega) (by decide) ?_
                  refine lk_sg (σ' := (lk_ms (lk_up (lk_sw σ 1 21 W) 1 21 (p) (nI (m))) V T)) (lk_wf (by decide)) ?_
                  refine lk_iincN (a := (lk_gat B r u m).1) (m := 1) (L' := [(0, lk_vr 1 0), (1, lk_vi (r)), (2, lk_vi (u)), (3, lk_vr 1 22), (4, lk_vi (nI ((lk_gat B r u m).1 + 1))), (5, lk_vi (nI (m))), (6, lk_vi (nI (p)))]) dX9_queues_107 rfl rfl (by decide +kernel) rfl ?_
                  refine lk_iincN (a := m) (m := 1) (L' := [(0, lk_vr 1 0), (1, lk_vi (r)), (2, lk_vi (u)), (3, lk_vr 1 22), (4, lk_vi (nI ((lk_gat B r u m).1 + 1))), (5, lk_vi (nI (m + 1))), (6, lk_vi (nI (p)))]) dX9_queues_110 rfl rfl (by decide +kernel) rfl ?_
                  refine lk_goto (tgt := 6) dX9_queues_113 (by decide) ?_
                  refine lk_sub (L' := [(0, lk_vr 1 0), (1, lk_vi (r)), (2, lk_vi (u)), (3, lk_vr 1 22), (4, lk_vi (nI ((lk_gat B r u m).1 + 1))), (5, lk_vi (nI (m + 1)))]) [0, 1, 2, 3, 4, 5] rfl ?_
                  have hs : lk_gat B r u (m + 1) = ((lk_gat B r u m).1 + 1, lk_sft (B 2) m (lk_gat B r u m).1 (lk_gat B r u m).2) := by
                    rw [lk_gat, if_pos ⟨by assumption, by assumption⟩]
                  have hRp : R = va_up q2 p m := by
                    by_cases e : p = 0
                    · rw [hI, e]; rfl
                    · have hp1 : p = (p - 1) + 1 := by omega
                      rw [hI, hp1, lk_sft, if_neg (by first | (exfalso; omega) | exact Int32.not_lt.mpr (by assumption))]
                      try simp
                  rw [lk_up_sw]
                  refine lk_cast (L' := [(0, lk_vr 1 0), (1, lk_vi (r)), (2, lk_vi (u)), (3, lk_vr 1 22), (4, lk_vi (nI ((lk_gat B r u (m + 1)).1))), (5, lk_vi (nI (m + 1)))]) rfl (by rw [hs]) rfl ?_
                  refine ih6 (m + 1) _ (by omega) ?_ (by omega)
                  rw [hs]
                  intro i hi
                  have hsr : lk_sft (B 2) m (lk_gat B r u m).1 (lk_gat B r u m).2 = va_up q2 p m := by rw [← hR, hRp]
                  simp only [hsr, lk_rw, va_up]
                  split
                  · rfl
                  · rename_i e; exact hw i hi e
                ·
                  have hqp := hqn2 (p - 1) (by omega)
                  refine lk_aload_n dX9_queues_58 rfl rfl ?_
                  refine lk_getR (f := 0) dX9_queues_59 rfl fX9_9 (by decide) (by decide) ?_
                  refine lk_bipush (v := 78) dX9_queues_62 (by decide) ?_
                  refine lk_aload_n dX9_queues_64 rfl rfl ?_
                  refine lk_iload dX9_queues_65 rfl ?_
                  refine lk_iconst (v := 1) dX9_queues_67 (by decide) ?_
                  refine lk_isubN (a := p) (b := 1) dX9_queues_68 (by omega) ?_
                  refine lk_ialdN (f := 21) (i := (p) - (1)) dX9_queues_69 rfl (by decide) rfl (by omega) (by decide) ?_
                  refine lk_eqtop (y := (nI (q2 (p - 1)))) ((lk_rf (by decide)).trans ((lk_sw_at _ _ _ _ _).trans (hw1 (p - 1) (by omega)))) ?_
                  refine lk_iaddN (a := 78) (b := q2 (p - 1)) dX9_queues_70 ?_
                  refine lk_ialdN (f := 0) (i := 78 + q2 (p - 1)) dX9_queues_71 rfl (by decide) rfl (by omega) (by decide) ?_
                  refine lk_eqtop (y := (B 2 (q2 (p - 1)))) ((lk_rB (by omega)).trans (hB (q2 (p - 1)) (by omega)).2.2.1) ?_
                  refine lk_aload_n dX9_queues_72 rfl rfl ?_
                  refine lk_getR (f := 0) dX9_queues_73 rfl fX9_9 (by decide) (by decide) ?_
                  refine lk_bipush (v := 78) dX9_queues_76 (by decide) ?_
                  refine lk_iload dX9_queues_78 rfl ?_
                  refine lk_iaddN (a := 78) (b := m) dX9_queues_80 ?_
                  refine lk_ialdN (f := 0) (i := 78 + m) dX9_queues_81 rfl (by decide) rfl (by omega) (by decide) ?_
                  refine lk_eqtop (y := (B 2 m)) ((lk_rB (by omega)).trans (hB (m) (by omega)).2.2.1) ?_
                  refine lk_icmp_ge (tgt := 101) dX9_queues_82 (by decide) (fun hh5 => ?_) (fun hh5 => ?_)
                  ·
                    refine lk_aload_n dX9_queues_101 rfl rfl ?_
                    refine lk_iload dX9_queues_102 rfl ?_
                    refine lk_iload dX9_queues_104 rfl ?_
                    refine lk_iastN (f := 21) (i := p) (v := (nI (m))) dX9_queues_106 rfl (by decide) rfl (by omega) (by decide) ?_
                    refine lk_sg (σ' := (lk_ms (lk_up (lk_sw σ 1 21 W) 1 21 (p) (nI (m))) V T)) (lk_wf (by decide)) ?_
                    refine lk_iincN (a := (lk_gat B r u m).1) (m := 1) (L' := [(0, lk_vr 1 0), (1, lk_vi (r)), (2, lk_vi (u)), (3, lk_vr 1 22), (4, lk_vi (nI ((lk_gat B r u m).1 + 1))), (5, lk_vi (nI (m))), (6, lk_vi (nI (p)))]) dX9_queues_107 rfl rfl (by decide +kernel) rfl ?_
                    refine lk_iincN (a := m) (m := 1) (L' := [(0, lk_vr 1 0), (1, lk_vi (r)), (2, lk_vi (u)), (3, lk_vr 1 22), (4, lk_vi (nI ((lk_gat B r u m).1 + 1))), (5, lk_vi (nI (m + 1))), (6, lk_vi (nI (p)))]) dX9_queues_110 rfl rfl (by decide +kernel) rfl ?_
                    refine lk_goto (tgt := 6) dX9_queues_113 (by decide) ?_
                    refine lk_sub (L' := [(0, lk_vr 1 0), (1, lk_vi (r)), (2, lk_vi (u)), (3, lk_vr 1 22), (4, lk_vi (nI ((lk_gat B r u m).1 + 1))), (5, lk_vi (nI (m + 1)))]) [0, 1, 2, 3, 4, 5] rfl ?_
                    have hs : lk_gat B r u (m + 1) = ((lk_gat B r u m).1 + 1, lk_sft (B 2) m (lk_gat B r u m).1 (lk_gat B r u m).2) := by
                      rw [lk_gat, if_pos ⟨by assumption, by assumption⟩]
                    have hRp : R = va_up q2 p m := by
                      by_cases e : p = 0
                      · rw [hI, e]; rfl
                      · have hp1 : p = (p - 1) + 1 := by omega
                        rw [hI, hp1, lk_sft, if_neg (by first | (exfalso; omega) | exact Int32.not_lt.mpr (by assumption))]
                        try simp
                    rw [lk_up_sw]
                    refine lk_cast (L' := [(0, lk_vr 1 0), (1, lk_vi (r)), (2, lk_vi (u)), (3, lk_vr 1 22), (4, lk_vi (nI ((lk_gat B r u (m + 1)).1))), (5, lk_vi (nI (m + 1)))]) rfl (by rw [hs]) rfl ?_
                    refine ih6 (m + 1) _ (by omega) ?_ (by omega)
                    rw [hs]
                    intro i hi
                    have hsr : lk_sft (B 2) m (lk_gat B r u m).1 (lk_gat B r u m).2 = va_up q2 p m := by rw [← hR, hRp]
                    simp only [hsr, lk_rw, va_up]
                    split
                    · rfl
                    · rename_i e; exact hw i hi e
                  ·
                    refine lk_aload_n dX9_queues_85 rfl rfl ?_
                    refine lk_iload dX9_queues_86 rfl ?_
                    refine lk_aload_n dX9_queues_88 rfl rfl ?_
                    refine lk_iload dX9_queues_89 rfl ?_
                    refine lk_iconst (v := 1) dX9_queues_91 (by decide) ?_
                    refine lk_isubN (a := p) (b := 1) dX9_queues_92 (by omega) ?_
                    refine lk_ialdN (f := 21) (i := (p) - (1)) dX9_queues_93 rfl (by decide) rfl (by omega) (by decide) ?_
                    refine lk_eqtop (y := (nI (q2 (p - 1)))) ((lk_rf (by decide)).trans ((lk_sw_at _ _ _ _ _).trans (hw1 (p - 1) (by omega)))) ?_
                    refine lk_iastN (f := 21) (i := p) (v := (nI (q2 (p - 1)))) dX9_queues_94 rfl (by decide) rfl (by omega) (by decide) ?_
                    refine lk_sg (σ' := (lk_ms (lk_up (lk_sw σ 1 21 W) 1 21 (p) (nI (q2 (p - 1)))) V T)) (lk_wf (by decide)) ?_
                    refine lk_idecN (a := p) (m := 1) (L' := [(0, lk_vr 1 0), (1, lk_vi (r)), (2, lk_vi (u)), (3, lk_vr 1 22), (4, lk_vi (nI ((lk_gat B r u m).1))), (5, lk_vi (nI (m))), (6, lk_vi (nI (p - 1)))]) dX9_queues_95 rfl rfl (by omega) (by decide +kernel) rfl ?_
                    refine lk_goto (tgt := 53) dX9_queues_98 (by decide) ?_
                    rw [lk_up_sw]
                    have hp1 : p = (p - 1) + 1 := by omega
                    rw [hp1, lk_sft, if_pos (by first | assumption | exact Int32.not_le.mp (by assumption))] at hI
                    refine ih (p - 1) _ _ (by omega) ?_ ?_ hI (by omega)
                    · intro i h1 h2
                      by_cases e : i = p
                      · subst e; simp [lk_rw, va_up]; try (rw [← hp1]; simp)
                      · have e2 : ¬ i = p - 1 + 1 := by omega
                        simp only [lk_rw, va_up]
                        rw [if_neg (by omega), if_neg e2]
                        exact hw i h1 e
                    · intro i h1
                      simp only [va_up]
                      rw [if_neg (by omega)]
                      exact hqn2 i (by omega)
            exact LP53 ((lk_gat B r u m).1 + 1) (lk_gat B r u m).1 W _ (Nat.le_refl _) (fun i h1 h2 => hWq i (by omega)) (fun i h => Nat.lt_of_lt_of_le (lk_gat_lt B r u m i h) (by omega)) hR (by omega)
          ·
            refine lk_goto (tgt := 110) dX9_queues_46 (by decide) ?_
            refine lk_iincN (a := m) (m := 1) (L' := [(0, lk_vr 1 0), (1, lk_vi (r)), (2, lk_vi (u)), (3, lk_vr 1 22), (4, lk_vi (nI ((lk_gat B r u m).1))), (5, lk_vi (nI (m + 1)))]) dX9_queues_110 rfl rfl (by decide +kernel) rfl ?_
            refine lk_goto (tgt := 6) dX9_queues_113 (by decide) ?_
            have hs : lk_gat B r u (m + 1) = lk_gat B r u m := by
              rw [lk_gat, if_neg (by rintro ⟨z1, z2⟩; contradiction)]
            refine lk_cast (L' := [(0, lk_vr 1 0), (1, lk_vi (r)), (2, lk_vi (u)), (3, lk_vr 1 22), (4, lk_vi (nI ((lk_gat B r u (m + 1)).1))), (5, lk_vi (nI (m + 1)))]) rfl (by rw [hs]) rfl ?_
            exact ih (m + 1) W (by omega) (by rw [hs]; exact hWq) (by omega)
  refine lk_sg (σ' := lk_ms (lk_sw σ 1 21 (σ 1 21)) V T) (by rw [lk_sw_self]) ?_
  exact LP6 (nf + 1) 0 _ (Nat.zero_le _) (fun i h => absurd h (Nat.not_lt_zero i)) (by omega)

set_option maxHeartbeats 1000000 in
set_option maxRecDepth 100000 in
theorem tX9_queuesOf (l : Launch) (X : lk_G) (d : Nat) (σ : lk_N) (τ : lk_T) (V T : lk_O) (B : lk_O) (nf : Nat) (hn : σ 1 0 114 = nI nf) (hn12 : nf ≤ 12) (hB : lk_bv σ B nf) (k : Nat) (hk : k < 6) : lk_Mt l X mX9_queuesOf (d + 1) [lk_vr 1 0, lk_vi (nI (k))] (lk_ms σ V T) τ (fun rr σ1 τ1 => rr = none ∧ τ1 = τ ∧ ∃ W : lk_N, σ1 = lk_ms W V T ∧ (lk_fx [18, 19, 20, 21] σ W ∧ lk_lq W (lk_qb B nf k) (lk_qa B nf k))) := by
  refine lk_met (L := [(0, lk_vr 1 0), (1, lk_vi (nI (k)))]) (by decide +kernel) (Nat.le_of_ble_eq_true rfl) rfl ?_
  obtain ⟨Q, hQ⟩ : ∃ Q : lk_Q, Q = fun rr σ1 τ1 => rr = none ∧ τ1 = τ ∧ ∃ W : lk_N, σ1 = lk_ms W V T ∧ (lk_fx [18, 19, 20, 21] σ W ∧ lk_lq W (lk_qb B nf k) (lk_qa B nf k)) := ⟨_, rfl⟩
  rw [← hQ]
  refine lk_aload_n dX9_queuesOf_0 rfl rfl ?_
  refine lk_aload_n dX9_queuesOf_1 rfl rfl ?_
  refine lk_iload_n dX9_queuesOf_2 rfl rfl ?_
  refine lk_iconst (v := 1) dX9_queuesOf_3 (by decide) ?_
  refine lk_aload_n dX9_queuesOf_4 rfl rfl ?_
  refine lk_getR (f := 20) dX9_queuesOf_5 rfl fX9_30 (by decide) (by decide) ?_
  refine lk_callV (o := 1) (as := [lk_vi (nI (k)), lk_vi 1, lk_vr 1 21]) (S := [lk_vr 1 0]) dX9_queuesOf_8 rfl vX9_queues rfl lX9_164 rfl rfl (Nat.le_of_ble_eq_true rfl) (tX9_queues_20 l X d σ τ (r := (nI (k))) (u := (1 : Int32)) (V := V) (T := T) (nf := nf) (B := B) (hn := hn) (hn12 := hn12) (hB := hB)) ?_
  refine lk_k4 (fun W1 hW1 => ?_)
  refine lk_cast (pc' := 11) (S' := [lk_vi (nI ((lk_gat B (nI k) 1 nf).1)), lk_vr 1 0]) rfl rfl rfl ?_
  refine lk_sg (σ' := (lk_ms (lk_sw σ 1 20 W1) V T)) rfl ?_
  refine lk_putI (f := 18) dX9_queuesOf_11 rfl fX9_168 (by decide) (by decide) ?_
  refine lk_sg (σ' := (lk_ms (lk_up (lk_sw σ 1 20 W1) 1 18 0 (nI ((lk_gat B (nI k) 1 nf).1))) V T)) (lk_wf (by decide)) ?_
  refine lk_aload_n dX9_queuesOf_14 rfl rfl ?_
  refine lk_aload_n dX9_queuesOf_15 rfl rfl ?_
  refine lk_iload_n dX9_queuesOf_16 rfl rfl ?_
  refine lk_iconst (v := 1) dX9_queuesOf_17 (by decide) ?_
  refine lk_iaddN (a := k) (b := 1) dX9_queuesOf_18 ?_
  refine lk_iconst (v := 0) dX9_queuesOf_19 (by decide) ?_
  refine lk_aload_n dX9_queuesOf_20 rfl rfl ?_
  refine lk_getR (f := 21) dX9_queuesOf_21 rfl fX9_33 (by decide) (by decide) ?_
  refine lk_callV (o := 1) (as := [lk_vi (nI (k + 1)), lk_vi 0, lk_vr 1 22]) (S := [lk_vr 1 0]) dX9_queuesOf_24 rfl vX9_queues rfl lX9_164 rfl rfl (Nat.le_of_ble_eq_true rfl) (tX9_queues_21 l X d (lk_up (lk_sw σ 1 20 W1) 1 18 0 (nI ((lk_gat B (nI k) 1 nf).1))) τ (r := (nI (k + 1))) (u := (0 : Int32)) (V := V) (T := T) (nf := nf) (B := B) (hn := hn) (hn12 := hn12) (hB := lk_bv_e rfl hB)) ?_
  refine lk_k4 (fun W2 hW2 => ?_)
  refine lk_cast (pc' := 27) (S' := [lk_vi (nI ((lk_gat B (nI (k + 1)) 0 nf).1)), lk_vr 1 0]) rfl rfl rfl ?_
  refine lk_sg (σ' := (lk_ms (lk_sw (lk_up (lk_sw σ 1 20 W1) 1 18 0 (nI ((lk_gat B (nI k) 1 nf).1))) 1 21 W2) V T)) rfl ?_
  refine lk_putI (f := 19) dX9_queuesOf_27 rfl fX9_171 (by decide) (by decide) ?_
  refine lk_sg (σ' := (lk_ms (lk_up (lk_sw (lk_up (lk_sw σ 1 20 W1) 1 18 0 (nI ((lk_gat B (nI k) 1 nf).1))) 1 21 W2) 1 19 0 (nI ((lk_gat B (nI (k + 1)) 0 nf).1))) V T)) (lk_wf (by decide)) ?_
  refine lk_vret dX9_queuesOf_30 rfl ?_
  rw [hQ]
  exact ⟨rfl, rfl, (lk_up (lk_sw (lk_up (lk_sw σ 1 20 W1) 1 18 0 (nI ((lk_gat B (nI k) 1 nf).1))) 1 21 W2) 1 19 0 (nI ((lk_gat B (nI (k + 1)) 0 nf).1))), rfl, (lk_fx_up (lk_fx_sw (lk_fx_up (lk_fx_sw (lk_fx_rf _ _) (by decide)) (by decide)) (by decide)) (by decide)), rfl, rfl, hW1, hW2⟩

set_option maxHeartbeats 1000000 in
set_option maxRecDepth 100000 in
theorem tX9_queue_out (l : Launch) (X : lk_G) (d : Nat) (σ : lk_N) (τ : lk_T) (V T : lk_O) (k : Int32) (hk : ¬ (0 ≤ k ∧ k ≤ V 0 0 - 1)) (i : Int32) : lk_Mt l X mX9_queue (d + 2) [lk_vr 1 0, lk_vi (k), lk_vi (i)] (lk_ms σ V T) τ (fun rr σ1 τ1 => rr = some (lk_vi (-1)) ∧ σ1 = (lk_ms σ V T) ∧ τ1 = τ) := by
  refine lk_met (L := [(0, lk_vr 1 0), (1, lk_vi (k)), (2, lk_vi (i))]) (by decide +kernel) (Nat.le_of_ble_eq_true rfl) rfl ?_
  obtain ⟨Q, hQ⟩ : ∃ Q : lk_Q, Q = fun rr σ1 τ1 => rr = some (lk_vi (-1)) ∧ σ1 = (lk_ms σ V T) ∧ τ1 = τ := ⟨_, rfl⟩
  rw [← hQ]
  refine lk_aload_n dX9_queue_0 rfl rfl ?_
  refine lk_iload_n dX9_queue_1 rfl rfl ?_
  refine lk_callV (o := 1) (as := [lk_vi (k)]) (S := []) dX9_queue_2 rfl vX9_isLock rfl lX9_50 rfl rfl (Nat.le_of_ble_eq_true rfl) (tX9_isLock l X d (lk_ms σ V T) τ (k := (k)) ) ?_
  refine lk_k3 ?_
  refine lk_cast (pc' := 5) (S' := [lk_vi (if (0 : Int32) ≤ (k) ∧ (k) ≤ (lk_ms σ V T) 1 0 53 - 1 then 1 else 0)]) rfl rfl rfl ?_
  refine lk_if_eqB (tgt := 14) dX9_queue_5 (by decide) (fun hh1 => ?_) (fun hh1 => absurd hh1 (by rw [lk_r0 rfl rfl]; exact hk))
  refine lk_iconst (v := (-1)) dX9_queue_14 (by decide) ?_
  refine lk_iret .int dX9_queue_15 rfl rfl ?_
  rw [hQ]
  exact ⟨by first | rfl | (simp [*]; done) | (simp_all; done) | grind, by first | rfl | (simp [*]; done), rfl⟩

set_option maxHeartbeats 1000000 in
set_option maxRecDepth 100000 in
theorem tX9_queue_bad (l : Launch) (X : lk_G) (d : Nat) (σ : lk_N) (τ : lk_T) (V T : lk_O) (n k : Nat) (hV : lk_cok V n) (hk : k < n) (i : Int32) (h : i < -2) : lk_Mt l X mX9_queue (d + 2) [lk_vr 1 0, lk_vi (nI (k)), lk_vi (i)] (lk_ms σ V T) τ (fun rr σ1 τ1 => rr = some (lk_vi (-1)) ∧ σ1 = (lk_ms σ V T) ∧ τ1 = τ) := by
  refine lk_met (L := [(0, lk_vr 1 0), (1, lk_vi (nI (k))), (2, lk_vi (i))]) (by decide +kernel) (Nat.le_of_ble_eq_true rfl) rfl ?_
  obtain ⟨Q, hQ⟩ : ∃ Q : lk_Q, Q = fun rr σ1 τ1 => rr = some (lk_vi (-1)) ∧ σ1 = (lk_ms σ V T) ∧ τ1 = τ := ⟨_, rfl⟩
  rw [← hQ]
  refine lk_aload_n dX9_queue_0 rfl rfl ?_
  refine lk_iload_n dX9_queue_1 rfl rfl ?_
  refine lk_callV (o := 1) (as := [lk_vi (nI (k))]) (S := []) dX9_queue_2 rfl vX9_isLock rfl lX9_50 rfl rfl (Nat.le_of_ble_eq_true rfl) (tX9_isLock l X d (lk_ms σ V T) τ (k := (nI (k))) ) ?_
  refine lk_k3 ?_
  refine lk_cast (pc' := 5) (S' := [lk_vi (if (0 : Int32) ≤ (nI (k)) ∧ (nI (k)) ≤ (lk_ms σ V T) 1 0 53 - 1 then 1 else 0)]) rfl rfl rfl ?_
  refine lk_if_eqB (tgt := 14) dX9_queue_5 (by decide) (fun hh1 => absurd hh1 (fun q => q (lk_isl hV hk))) (fun hh1 => ?_)
  refine lk_iload_n dX9_queue_8 rfl rfl ?_
  refine lk_bipush (v := (-2)) dX9_queue_9 (by decide) ?_
  refine lk_icmp_ge (tgt := 16) dX9_queue_11 (by decide) (fun hh2 => absurd hh2 (Int32.not_le.mpr h)) (fun hh2 => ?_)
  refine lk_iconst (v := (-1)) dX9_queue_14 (by decide) ?_
  refine lk_iret .int dX9_queue_15 rfl rfl ?_
  rw [hQ]
  exact ⟨by first | rfl | (simp [*]; done) | (simp_all; done) | grind, by first | rfl | (simp [*]; done), rfl⟩

set_option maxHeartbeats 1000000 in
set_option maxRecDepth 100000 in
theorem tX9_queue_m1 (l : Launch) (X : lk_G) (d : Nat) (σ : lk_N) (τ : lk_T) (V T : lk_O) (n k : Nat) (hV : lk_cok V n) (hk : k < n) (B : lk_O) (nf : Nat) (hn : σ 1 0 114 = nI nf) (hn12 : nf ≤ 12) (hB : lk_bv σ B nf)   : lk_Mt l X mX9_queue (d + 2) [lk_vr 1 0, lk_vi (nI (k)), lk_vi (-1)] (lk_ms σ V T) τ (fun rr σ1 τ1 => rr = some (lk_vi (nI ((lk_qb B nf k).1))) ∧ τ1 = τ ∧ ∃ W : lk_N, σ1 = lk_ms W V T ∧ lk_fx [18, 19, 20, 21] σ W) := by
  refine lk_met (L := [(0, lk_vr 1 0), (1, lk_vi (nI (k))), (2, lk_vi (-1))]) (by decide +kernel) (Nat.le_of_ble_eq_true rfl) rfl ?_
  obtain ⟨Q, hQ⟩ : ∃ Q : lk_Q, Q = fun rr σ1 τ1 => rr = some (lk_vi (nI ((lk_qb B nf k).1))) ∧ τ1 = τ ∧ ∃ W : lk_N, σ1 = lk_ms W V T ∧ lk_fx [18, 19, 20, 21] σ W := ⟨_, rfl⟩
  rw [← hQ]
  have hk6 : k < 6 := Nat.lt_of_lt_of_le hk hV.2.2.1
  have hgb : (lk_qb B nf k).1 ≤ nf := lk_gat_le B (nI k) 1 nf
  have hga : (lk_qa B nf k).1 ≤ nf := lk_gat_le B (nI (k + 1)) 0 nf
  refine lk_aload_n dX9_queue_0 rfl rfl ?_
  refine lk_iload_n dX9_queue_1 rfl rfl ?_
  refine lk_callV (o := 1) (as := [lk_vi (nI (k))]) (S := []) dX9_queue_2 rfl vX9_isLock rfl lX9_50 rfl rfl (Nat.le_of_ble_eq_true rfl) (tX9_isLock l X d (lk_ms σ V T) τ (k := (nI (k))) ) ?_
  refine lk_k3 ?_
  refine lk_cast (pc' := 5) (S' := [lk_vi (if (0 : Int32) ≤ (nI (k)) ∧ (nI (k)) ≤ (lk_ms σ V T) 1 0 53 - 1 then 1 else 0)]) rfl rfl rfl ?_
  refine lk_if_eqB (tgt := 14) dX9_queue_5 (by decide) (fun hh1 => absurd hh1 (fun q => q (lk_isl hV hk))) (fun hh1 => ?_)
  refine lk_iload_n dX9_queue_8 rfl rfl ?_
  refine lk_bipush (v := (-2)) dX9_queue_9 (by decide) ?_
  refine lk_icmp_ge (tgt := 16) dX9_queue_11 (by decide) (fun hh2 => ?_) (fun hh2 => absurd hh2 (by decide))
  refine lk_aload_n dX9_queue_16 rfl rfl ?_
  refine lk_iload_n dX9_queue_17 rfl rfl ?_
  refine lk_callV (o := 1) (as := [lk_vi (nI (k))]) (S := []) dX9_queue_18 rfl vX9_queuesOf rfl lX9_174 rfl rfl (Nat.le_of_ble_eq_true rfl) (tX9_queuesOf l X d σ τ (k := (k)) (V := V) (T := T) (B := B) (nf := nf) (hn := hn) (hn12 := hn12) (hB := hB) (hk := hk6)) ?_
  refine lk_k4 (fun W1 hW1 => ?_)
  obtain ⟨W1f, W1a, W1b, W1c, W1d⟩ := hW1
  refine lk_cast (pc' := 21) (S' := []) rfl rfl rfl ?_
  refine lk_sg (σ' := (lk_ms W1 V T)) rfl ?_
  refine lk_iload_n dX9_queue_21 rfl rfl ?_
  refine lk_if_ge (tgt := 42) dX9_queue_22 (by decide) (fun hh3 => absurd hh3 (by decide)) (fun hh3 => ?_)
  refine lk_iload_n dX9_queue_25 rfl rfl ?_
  refine lk_iconst (v := (-1)) dX9_queue_26 (by decide) ?_
  refine lk_icmp_ne (tgt := 37) dX9_queue_27 (by decide) (fun hh4 => absurd hh4 (by decide)) (fun hh4 => ?_)
  refine lk_aload_n dX9_queue_30 rfl rfl ?_
  refine lk_getIv (v := (nI ((lk_qb B nf k).1))) (f := 18) dX9_queue_31 rfl fX9_168 (by decide) (by decide) ((lk_rf (by decide)).trans W1a) ?_
  refine lk_goto (tgt := 41) dX9_queue_34 (by decide) ?_
  refine lk_iret .int dX9_queue_41 rfl rfl ?_
  rw [hQ]
  exact ⟨rfl, rfl, W1, rfl, W1f⟩

set_option maxHeartbeats 1000000 in
set_option maxRecDepth 100000 in
theorem tX9_queue_m2 (l : Launch) (X : lk_G) (d : Nat) (σ : lk_N) (τ : lk_T) (V T : lk_O) (n k : Nat) (hV : lk_cok V n) (hk : k < n) (B : lk_O) (nf : Nat) (hn : σ 1 0 114 = nI nf) (hn12 : nf ≤ 12) (hB : lk_bv σ B nf)   : lk_Mt l X mX9_queue (d + 2) [lk_vr 1 0, lk_vi (nI (k)), lk_vi (-2)] (lk_ms σ V T) τ (fun rr σ1 τ1 => rr = some (lk_vi (nI ((lk_qa B nf k).1))) ∧ τ1 = τ ∧ ∃ W : lk_N, σ1 = lk_ms W V T ∧ lk_fx [18, 19, 20, 21] σ W) := by
  refine lk_met (L := [(0, lk_vr 1 0), (1, lk_vi (nI (k))), (2, lk_vi (-2))]) (by decide +kernel) (Nat.le_of_ble_eq_true rfl) rfl ?_
  obtain ⟨Q, hQ⟩ : ∃ Q : lk_Q, Q = fun rr σ1 τ1 => rr = some (lk_vi (nI ((lk_qa B nf k).1))) ∧ τ1 = τ ∧ ∃ W : lk_N, σ1 = lk_ms W V T ∧ lk_fx [18, 19, 20, 21] σ W := ⟨_, rfl⟩
  rw [← hQ]
  have hk6 : k < 6 := Nat.lt_of_lt_of_le hk hV.2.2.1
  have hgb : (lk_qb B nf k).1 ≤ nf := lk_gat_le B (nI k) 1 nf
  have hga : (lk_qa B nf k).1 ≤ nf := lk_gat_le B (nI (k + 1)) 0 nf
  refine lk_aload_n dX9_queue_0 rfl rfl ?_
  refine lk_iload_n dX9_queue_1 rfl rfl ?_
  refine lk_callV (o := 1) (as := [lk_vi (nI (k))]) (S := []) dX9_queue_2 rfl vX9_isLock rfl lX9_50 rfl rfl (Nat.le_of_ble_eq_true rfl) (tX9_isLock l X d (lk_ms σ V T) τ (k := (nI (k))) ) ?_
  refine lk_k3 ?_
  refine lk_cast (pc' := 5) (S' := [lk_vi (if (0 : Int32) ≤ (nI (k)) ∧ (nI (k)) ≤ (lk_ms σ V T) 1 0 53 - 1 then 1 else 0)]) rfl rfl rfl ?_
  refine lk_if_eqB (tgt := 14) dX9_queue_5 (by decide) (fun hh1 => absurd hh1 (fun q => q (lk_isl hV hk))) (fun hh1 => ?_)
  refine lk_iload_n dX9_queue_8 rfl rfl ?_
  refine lk_bipush (v := (-2)) dX9_queue_9 (by decide) ?_
  refine lk_icmp_ge (tgt := 16) dX9_queue_11 (by decide) (fun hh2 => ?_) (fun hh2 => absurd hh2 (by decide))
  refine lk_aload_n dX9_queue_16 rfl rfl ?_
  refine lk_iload_n dX9_queue_17 rfl rfl ?_
  refine lk_callV (o := 1) (as := [lk_vi (nI (k))]) (S := []) dX9_queue_18 rfl vX9_queuesOf rfl lX9_174 rfl rfl (Nat.le_of_ble_eq_true rfl) (tX9_queuesOf l X d σ τ (k := (k)) (V := V) (T := T) (B := B) (nf := nf) (hn := hn) (hn12 := hn12) (hB := hB) (hk := hk6)) ?_
  refine lk_k4 (fun W1 hW1 => ?_)
  obtain ⟨W1f, W1a, W1b, W1c, W1d⟩ := hW1
  refine lk_cast (pc' := 21) (S' := []) rfl rfl rfl ?_
  refine lk_sg (σ' := (lk_ms W1 V T)) rfl ?_
  refine lk_iload_n dX9_queue_21 rfl rfl ?_
  refine lk_if_ge (tgt := 42) dX9_queue_22 (by decide) (fun hh3 => absurd hh3 (by decide)) (fun hh3 => ?_)
  refine lk_iload_n dX9_queue_25 rfl rfl ?_
  refine lk_iconst (v := (-1)) dX9_queue_26 (by decide) ?_
  refine lk_icmp_ne (tgt := 37) dX9_queue_27 (by decide) (fun hh4 => ?_) (fun hh4 => absurd hh4 (by decide))
  refine lk_aload_n dX9_queue_37 rfl rfl ?_
  refine lk_getIv (v := (nI ((lk_qa B nf k).1))) (f := 19) dX9_queue_38 rfl fX9_171 (by decide) (by decide) ((lk_rf (by decide)).trans W1b) ?_
  refine lk_iret .int dX9_queue_41 rfl rfl ?_
  rw [hQ]
  exact ⟨rfl, rfl, W1, rfl, W1f⟩

set_option maxHeartbeats 1000000 in
set_option maxRecDepth 100000 in
theorem tX9_queue_b (l : Launch) (X : lk_G) (d : Nat) (σ : lk_N) (τ : lk_T) (V T : lk_O) (n k : Nat) (hV : lk_cok V n) (hk : k < n) (B : lk_O) (nf : Nat) (hn : σ 1 0 114 = nI nf) (hn12 : nf ≤ 12) (hB : lk_bv σ B nf) (j : Nat) (hj : j < 2 ^ 31) (h20 : j < 20) (h : j < (lk_qb B nf k).1) : lk_Mt l X mX9_queue (d + 2) [lk_vr 1 0, lk_vi (nI (k)), lk_vi (nI (j))] (lk_ms σ V T) τ (fun rr σ1 τ1 => rr = some (lk_vi (nI ((lk_qb B nf k).2 j))) ∧ τ1 = τ ∧ ∃ W : lk_N, σ1 = lk_ms W V T ∧ lk_fx [18, 19, 20, 21] σ W) := by
  refine lk_met (L := [(0, lk_vr 1 0), (1, lk_vi (nI (k))), (2, lk_vi (nI (j)))]) (by decide +kernel) (Nat.le_of_ble_eq_true rfl) rfl ?_
  obtain ⟨Q, hQ⟩ : ∃ Q : lk_Q, Q = fun rr σ1 τ1 => rr = some (lk_vi (nI ((lk_qb B nf k).2 j))) ∧ τ1 = τ ∧ ∃ W : lk_N, σ1 = lk_ms W V T ∧ lk_fx [18, 19, 20, 21] σ W := ⟨_, rfl⟩
  rw [← hQ]
  have hk6 : k < 6 := Nat.lt_of_lt_of_le hk hV.2.2.1
  have hgb : (lk_qb B nf k).1 ≤ nf := lk_gat_le B (nI k) 1 nf
  have hga : (lk_qa B nf k).1 ≤ nf := lk_gat_le B (nI (k + 1)) 0 nf
  refine lk_aload_n dX9_queue_0 rfl rfl ?_
  refine lk_iload_n dX9_queue_1 rfl rfl ?_
  refine lk_callV (o := 1) (as := [lk_vi (nI (k))]) (S := []) dX9_queue_2 rfl vX9_isLock rfl lX9_50 rfl rfl (Nat.le_of_ble_eq_true rfl) (tX9_isLock l X d (lk_ms σ V T) τ (k := (nI (k))) ) ?_
  refine lk_k3 ?_
  refine lk_cast (pc' := 5) (S' := [lk_vi (if (0 : Int32) ≤ (nI (k)) ∧ (nI (k)) ≤ (lk_ms σ V T) 1 0 53 - 1 then 1 else 0)]) rfl rfl rfl ?_
  refine lk_if_eqB (tgt := 14) dX9_queue_5 (by decide) (fun hh1 => absurd hh1 (fun q => q (lk_isl hV hk))) (fun hh1 => ?_)
  refine lk_iload_n dX9_queue_8 rfl rfl ?_
  refine lk_bipush (v := (-2)) dX9_queue_9 (by decide) ?_
  refine lk_icmp_ge (tgt := 16) dX9_queue_11 (by decide) (fun hh2 => ?_) (fun hh2 => absurd hh2 (lk_nim_ge (by omega)))
  refine lk_aload_n dX9_queue_16 rfl rfl ?_
  refine lk_iload_n dX9_queue_17 rfl rfl ?_
  refine lk_callV (o := 1) (as := [lk_vi (nI (k))]) (S := []) dX9_queue_18 rfl vX9_queuesOf rfl lX9_174 rfl rfl (Nat.le_of_ble_eq_true rfl) (tX9_queuesOf l X d σ τ (k := (k)) (V := V) (T := T) (B := B) (nf := nf) (hn := hn) (hn12 := hn12) (hB := hB) (hk := hk6)) ?_
  refine lk_k4 (fun W1 hW1 => ?_)
  obtain ⟨W1f, W1a, W1b, W1c, W1d⟩ := hW1
  refine lk_cast (pc' := 21) (S' := []) rfl rfl rfl ?_
  refine lk_sg (σ' := (lk_ms W1 V T)) rfl ?_
  refine lk_iload_n dX9_queue_21 rfl rfl ?_
  refine lk_if_geN (a := j) (tgt := 42) dX9_queue_22 (by decide) (by omega) (fun hh3 => ?_) (fun hh3 => absurd hh3 (by omega))
  refine lk_iload_n dX9_queue_42 rfl rfl ?_
  refine lk_bipush (v := 20) dX9_queue_43 (by decide) ?_
  refine lk_icmp_geN (a := j) (b := 20) (tgt := 68) dX9_queue_45 (by decide) (by omega) (by omega) (fun hh4 => absurd hh4 (by omega)) (fun hh4 => ?_)
  refine lk_iload_n dX9_queue_48 rfl rfl ?_
  refine lk_aload_n dX9_queue_49 rfl rfl ?_
  refine lk_getIv (v := (nI ((lk_qb B nf k).1))) (f := 18) dX9_queue_50 rfl fX9_168 (by decide) (by decide) ((lk_rf (by decide)).trans W1a) ?_
  refine lk_icmp_geN (a := j) (b := (lk_qb B nf k).1) (tgt := 65) dX9_queue_53 (by decide) (by omega) (by omega) (fun hh5 => absurd hh5 (by omega)) (fun hh5 => ?_)
  refine lk_aload_n dX9_queue_56 rfl rfl ?_
  refine lk_getR (f := 20) dX9_queue_57 rfl fX9_30 (by decide) (by decide) ?_
  refine lk_iload_n dX9_queue_60 rfl rfl ?_
  refine lk_ialdN (f := 20) (i := j) dX9_queue_61 rfl (by decide) rfl (by omega) (by decide) ?_
  refine lk_eqtop (y := (nI ((lk_qb B nf k).2 j))) ((lk_rf (by decide)).trans (W1c j h)) ?_
  refine lk_goto (tgt := 67) dX9_queue_62 (by decide) ?_
  refine lk_iret .int dX9_queue_67 rfl rfl ?_
  rw [hQ]
  exact ⟨rfl, rfl, W1, rfl, W1f⟩

set_option maxHeartbeats 1000000 in
set_option maxRecDepth 100000 in
theorem tX9_queue_bx (l : Launch) (X : lk_G) (d : Nat) (σ : lk_N) (τ : lk_T) (V T : lk_O) (n k : Nat) (hV : lk_cok V n) (hk : k < n) (B : lk_O) (nf : Nat) (hn : σ 1 0 114 = nI nf) (hn12 : nf ≤ 12) (hB : lk_bv σ B nf) (j : Nat) (hj : j < 2 ^ 31) (h20 : j < 20) (h : (lk_qb B nf k).1 ≤ j) : lk_Mt l X mX9_queue (d + 2) [lk_vr 1 0, lk_vi (nI (k)), lk_vi (nI (j))] (lk_ms σ V T) τ (fun rr σ1 τ1 => rr = some (lk_vi (-2)) ∧ τ1 = τ ∧ ∃ W : lk_N, σ1 = lk_ms W V T ∧ lk_fx [18, 19, 20, 21] σ W) := by
  refine lk_met (L := [(0, lk_vr 1 0), (1, lk_vi (nI (k))), (2, lk_vi (nI (j)))]) (by decide +kernel) (Nat.le_of_ble_eq_true rfl) rfl ?_
  obtain ⟨Q, hQ⟩ : ∃ Q : lk_Q, Q = fun rr σ1 τ1 => rr = some (lk_vi (-2)) ∧ τ1 = τ ∧ ∃ W : lk_N, σ1 = lk_ms W V T ∧ lk_fx [18, 19, 20, 21] σ W := ⟨_, rfl⟩
  rw [← hQ]
  have hk6 : k < 6 := Nat.lt_of_lt_of_le hk hV.2.2.1
  have hgb : (lk_qb B nf k).1 ≤ nf := lk_gat_le B (nI k) 1 nf
  have hga : (lk_qa B nf k).1 ≤ nf := lk_gat_le B (nI (k + 1)) 0 nf
  refine lk_aload_n dX9_queue_0 rfl rfl ?_
  refine lk_iload_n dX9_queue_1 rfl rfl ?_
  refine lk_callV (o := 1) (as := [lk_vi (nI (k))]) (S := []) dX9_queue_2 rfl vX9_isLock rfl lX9_50 rfl rfl (Nat.le_of_ble_eq_true rfl) (tX9_isLock l X d (lk_ms σ V T) τ (k := (nI (k))) ) ?_
  refine lk_k3 ?_
  refine lk_cast (pc' := 5) (S' := [lk_vi (if (0 : Int32) ≤ (nI (k)) ∧ (nI (k)) ≤ (lk_ms σ V T) 1 0 53 - 1 then 1 else 0)]) rfl rfl rfl ?_
  refine lk_if_eqB (tgt := 14) dX9_queue_5 (by decide) (fun hh1 => absurd hh1 (fun q => q (lk_isl hV hk))) (fun hh1 => ?_)
  refine lk_iload_n dX9_queue_8 rfl rfl ?_
  refine lk_bipush (v := (-2)) dX9_queue_9 (by decide) ?_
  refine lk_icmp_ge (tgt := 16) dX9_queue_11 (by decide) (fun hh2 => ?_) (fun hh2 => absurd hh2 (lk_nim_ge (by omega)))
  refine lk_aload_n dX9_queue_16 rfl rfl ?_
  refine lk_iload_n dX9_queue_17 rfl rfl ?_
  refine lk_callV (o := 1) (as := [lk_vi (nI (k))]) (S := []) dX9_queue_18 rfl vX9_queuesOf rfl lX9_174 rfl rfl (Nat.le_of_ble_eq_true rfl) (tX9_queuesOf l X d σ τ (k := (k)) (V := V) (T := T) (B := B) (nf := nf) (hn := hn) (hn12 := hn12) (hB := hB) (hk := hk6)) ?_
  refine lk_k4 (fun W1 hW1 => ?_)
  obtain ⟨W1f, W1a, W1b, W1c, W1d⟩ := hW1
  refine lk_cast (pc' := 21) (S' := []) rfl rfl rfl ?_
  refine lk_sg (σ' := (lk_ms W1 V T)) rfl ?_
  refine lk_iload_n dX9_queue_21 rfl rfl ?_
  refine lk_if_geN (a := j) (tgt := 42) dX9_queue_22 (by decide) (by omega) (fun hh3 => ?_) (fun hh3 => absurd hh3 (by omega))
  refine lk_iload_n dX9_queue_42 rfl rfl ?_
  refine lk_bipush (v := 20) dX9_queue_43 (by decide) ?_
  refine lk_icmp_geN (a := j) (b := 20) (tgt := 68) dX9_queue_45 (by decide) (by omega) (by omega) (fun hh4 => absurd hh4 (by omega)) (fun hh4 => ?_)
  refine lk_iload_n dX9_queue_48 rfl rfl ?_
  refine lk_aload_n dX9_queue_49 rfl rfl ?_
  refine lk_getIv (v := (nI ((lk_qb B nf k).1))) (f := 18) dX9_queue_50 rfl fX9_168 (by decide) (by decide) ((lk_rf (by decide)).trans W1a) ?_
  refine lk_icmp_geN (a := j) (b := (lk_qb B nf k).1) (tgt := 65) dX9_queue_53 (by decide) (by omega) (by omega) (fun hh5 => ?_) (fun hh5 => absurd hh5 (by omega))
  refine lk_bipush (v := (-2)) dX9_queue_65 (by decide) ?_
  refine lk_iret .int dX9_queue_67 rfl rfl ?_
  rw [hQ]
  exact ⟨rfl, rfl, W1, rfl, W1f⟩

set_option maxHeartbeats 1000000 in
set_option maxRecDepth 100000 in
theorem tX9_queue_a (l : Launch) (X : lk_G) (d : Nat) (σ : lk_N) (τ : lk_T) (V T : lk_O) (n k : Nat) (hV : lk_cok V n) (hk : k < n) (B : lk_O) (nf : Nat) (hn : σ 1 0 114 = nI nf) (hn12 : nf ≤ 12) (hB : lk_bv σ B nf) (j : Nat) (hj : j < 2 ^ 31) (h20 : 20 ≤ j) (h : j - 20 < (lk_qa B nf k).1) : lk_Mt l X mX9_queue (d + 2) [lk_vr 1 0, lk_vi (nI (k)), lk_vi (nI (j))] (lk_ms σ V T) τ (fun rr σ1 τ1 => rr = some (lk_vi (nI ((lk_qa B nf k).2 (j - 20)))) ∧ τ1 = τ ∧ ∃ W : lk_N, σ1 = lk_ms W V T ∧ lk_fx [18, 19, 20, 21] σ W) := by
  refine lk_met (L := [(0, lk_vr 1 0), (1, lk_vi (nI (k))), (2, lk_vi (nI (j)))]) (by decide +kernel) (Nat.le_of_ble_eq_true rfl) rfl ?_
  obtain ⟨Q, hQ⟩ : ∃ Q : lk_Q, Q = fun rr σ1 τ1 => rr = some (lk_vi (nI ((lk_qa B nf k).2 (j - 20)))) ∧ τ1 = τ ∧ ∃ W : lk_N, σ1 = lk_ms W V T ∧ lk_fx [18, 19, 20, 21] σ W := ⟨_, rfl⟩
  rw [← hQ]
  have hk6 : k < 6 := Nat.lt_of_lt_of_le hk hV.2.2.1
  have hgb : (lk_qb B nf k).1 ≤ nf := lk_gat_le B (nI k) 1 nf
  have hga : (lk_qa B nf k).1 ≤ nf := lk_gat_le B (nI (k + 1)) 0 nf
  refine lk_aload_n dX9_queue_0 rfl rfl ?_
  refine lk_iload_n dX9_queue_1 rfl rfl ?_
  refine lk_callV (o := 1) (as := [lk_vi (nI (k))]) (S := []) dX9_queue_2 rfl vX9_isLock rfl lX9_50 rfl rfl (Nat.le_of_ble_eq_true rfl) (tX9_isLock l X d (lk_ms σ V T) τ (k := (nI (k))) ) ?_
  refine lk_k3 ?_
  refine lk_cast (pc' := 5) (S' := [lk_vi (if (0 : Int32) ≤ (nI (k)) ∧ (nI (k)) ≤ (lk_ms σ V T) 1 0 53 - 1 then 1 else 0)]) rfl rfl rfl ?_
  refine lk_if_eqB (tgt := 14) dX9_queue_5 (by decide) (fun hh1 => absurd hh1 (fun q => q (lk_isl hV hk))) (fun hh1 => ?_)
  refine lk_iload_n dX9_queue_8 rfl rfl ?_
  refine lk_bipush (v := (-2)) dX9_queue_9 (by decide) ?_
  refine lk_icmp_ge (tgt := 16) dX9_queue_11 (by decide) (fun hh2 => ?_) (fun hh2 => absurd hh2 (lk_nim_ge (by omega)))
  refine lk_aload_n dX9_queue_16 rfl rfl ?_
  refine lk_iload_n dX9_queue_17 rfl rfl ?_
  refine lk_callV (o := 1) (as := [lk_vi (nI (k))]) (S := []) dX9_queue_18 rfl vX9_queuesOf rfl lX9_174 rfl rfl (Nat.le_of_ble_eq_true rfl) (tX9_queuesOf l X d σ τ (k := (k)) (V := V) (T := T) (B := B) (nf := nf) (hn := hn) (hn12 := hn12) (hB := hB) (hk := hk6)) ?_
  refine lk_k4 (fun W1 hW1 => ?_)
  obtain ⟨W1f, W1a, W1b, W1c, W1d⟩ := hW1
  refine lk_cast (pc' := 21) (S' := []) rfl rfl rfl ?_
  refine lk_sg (σ' := (lk_ms W1 V T)) rfl ?_
  refine lk_iload_n dX9_queue_21 rfl rfl ?_
  refine lk_if_geN (a := j) (tgt := 42) dX9_queue_22 (by decide) (by omega) (fun hh3 => ?_) (fun hh3 => absurd hh3 (by omega))
  refine lk_iload_n dX9_queue_42 rfl rfl ?_
  refine lk_bipush (v := 20) dX9_queue_43 (by decide) ?_
  refine lk_icmp_geN (a := j) (b := 20) (tgt := 68) dX9_queue_45 (by decide) (by omega) (by omega) (fun hh4 => ?_) (fun hh4 => absurd hh4 (by omega))
  refine lk_iload_n dX9_queue_68 rfl rfl ?_
  refine lk_bipush (v := 20) dX9_queue_69 (by decide) ?_
  refine lk_isubN (a := j) (b := 20) dX9_queue_71 (by omega) ?_
  refine lk_aload_n dX9_queue_72 rfl rfl ?_
  refine lk_getIv (v := (nI ((lk_qa B nf k).1))) (f := 19) dX9_queue_73 rfl fX9_171 (by decide) (by decide) ((lk_rf (by decide)).trans W1b) ?_
  refine lk_icmp_geN (a := (j) - (20)) (b := (lk_qa B nf k).1) (tgt := 91) dX9_queue_76 (by decide) (by omega) (by omega) (fun hh5 => absurd hh5 (by omega)) (fun hh5 => ?_)
  refine lk_aload_n dX9_queue_79 rfl rfl ?_
  refine lk_getR (f := 21) dX9_queue_80 rfl fX9_33 (by decide) (by decide) ?_
  refine lk_iload_n dX9_queue_83 rfl rfl ?_
  refine lk_bipush (v := 20) dX9_queue_84 (by decide) ?_
  refine lk_isubN (a := j) (b := 20) dX9_queue_86 (by omega) ?_
  refine lk_ialdN (f := 21) (i := (j) - (20)) dX9_queue_87 rfl (by decide) rfl (by omega) (by decide) ?_
  refine lk_eqtop (y := (nI ((lk_qa B nf k).2 (j - 20)))) ((lk_rf (by decide)).trans (W1d (j - 20) h)) ?_
  refine lk_goto (tgt := 93) dX9_queue_88 (by decide) ?_
  refine lk_iret .int dX9_queue_93 rfl rfl ?_
  rw [hQ]
  exact ⟨rfl, rfl, W1, rfl, W1f⟩

set_option maxHeartbeats 1000000 in
set_option maxRecDepth 100000 in
theorem tX9_queue_ax (l : Launch) (X : lk_G) (d : Nat) (σ : lk_N) (τ : lk_T) (V T : lk_O) (n k : Nat) (hV : lk_cok V n) (hk : k < n) (B : lk_O) (nf : Nat) (hn : σ 1 0 114 = nI nf) (hn12 : nf ≤ 12) (hB : lk_bv σ B nf) (j : Nat) (hj : j < 2 ^ 31) (h20 : 20 ≤ j) (h : (lk_qa B nf k).1 ≤ j - 20) : lk_Mt l X mX9_queue (d + 2) [lk_vr 1 0, lk_vi (nI (k)), lk_vi (nI (j))] (lk_ms σ V T) τ (fun rr σ1 τ1 => rr = some (lk_vi (-2)) ∧ τ1 = τ ∧ ∃ W : lk_N, σ1 = lk_ms W V T ∧ lk_fx [18, 19, 20, 21] σ W) := by
  refine lk_met (L := [(0, lk_vr 1 0), (1, lk_vi (nI (k))), (2, lk_vi (nI (j)))]) (by decide +kernel) (Nat.le_of_ble_eq_true rfl) rfl ?_
  obtain ⟨Q, hQ⟩ : ∃ Q : lk_Q, Q = fun rr σ1 τ1 => rr = some (lk_vi (-2)) ∧ τ1 = τ ∧ ∃ W : lk_N, σ1 = lk_ms W V T ∧ lk_fx [18, 19, 20, 21] σ W := ⟨_, rfl⟩
  rw [← hQ]
  have hk6 : k < 6 := Nat.lt_of_lt_of_le hk hV.2.2.1
  have hgb : (lk_qb B nf k).1 ≤ nf := lk_gat_le B (nI k) 1 nf
  have hga : (lk_qa B nf k).1 ≤ nf := lk_gat_le B (nI (k + 1)) 0 nf
  refine lk_aload_n dX9_queue_0 rfl rfl ?_
  refine lk_iload_n dX9_queue_1 rfl rfl ?_
  refine lk_callV (o := 1) (as := [lk_vi (nI (k))]) (S := []) dX9_queue_2 rfl vX9_isLock rfl lX9_50 rfl rfl (Nat.le_of_ble_eq_true rfl) (tX9_isLock l X d (lk_ms σ V T) τ (k := (nI (k))) ) ?_
  refine lk_k3 ?_
  refine lk_cast (pc' := 5) (S' := [lk_vi (if (0 : Int32) ≤ (nI (k)) ∧ (nI (k)) ≤ (lk_ms σ V T) 1 0 53 - 1 then 1 else 0)]) rfl rfl rfl ?_
  refine lk_if_eqB (tgt := 14) dX9_queue_5 (by decide) (fun hh1 => absurd hh1 (fun q => q (lk_isl hV hk))) (fun hh1 => ?_)
  refine lk_iload_n dX9_queue_8 rfl rfl ?_
  refine lk_bipush (v := (-2)) dX9_queue_9 (by decide) ?_
  refine lk_icmp_ge (tgt := 16) dX9_queue_11 (by decide) (fun hh2 => ?_) (fun hh2 => absurd hh2 (lk_nim_ge (by omega)))
  refine lk_aload_n dX9_queue_16 rfl rfl ?_
  refine lk_iload_n dX9_queue_17 rfl rfl ?_
  refine lk_callV (o := 1) (as := [lk_vi (nI (k))]) (S := []) dX9_queue_18 rfl vX9_queuesOf rfl lX9_174 rfl rfl (Nat.le_of_ble_eq_true rfl) (tX9_queuesOf l X d σ τ (k := (k)) (V := V) (T := T) (B := B) (nf := nf) (hn := hn) (hn12 := hn12) (hB := hB) (hk := hk6)) ?_
  refine lk_k4 (fun W1 hW1 => ?_)
  obtain ⟨W1f, W1a, W1b, W1c, W1d⟩ := hW1
  refine lk_cast (pc' := 21) (S' := []) rfl rfl rfl ?_
  refine lk_sg (σ' := (lk_ms W1 V T)) rfl ?_
  refine lk_iload_n dX9_queue_21 rfl rfl ?_
  refine lk_if_geN (a := j) (tgt := 42) dX9_queue_22 (by decide) (by omega) (fun hh3 => ?_) (fun hh3 => absurd hh3 (by omega))
  refine lk_iload_n dX9_queue_42 rfl rfl ?_
  refine lk_bipush (v := 20) dX9_queue_43 (by decide) ?_
  refine lk_icmp_geN (a := j) (b := 20) (tgt := 68) dX9_queue_45 (by decide) (by omega) (by omega) (fun hh4 => ?_) (fun hh4 => absurd hh4 (by omega))
  refine lk_iload_n dX9_queue_68 rfl rfl ?_
  refine lk_bipush (v := 20) dX9_queue_69 (by decide) ?_
  refine lk_isubN (a := j) (b := 20) dX9_queue_71 (by omega) ?_
  refine lk_aload_n dX9_queue_72 rfl rfl ?_
  refine lk_getIv (v := (nI ((lk_qa B nf k).1))) (f := 19) dX9_queue_73 rfl fX9_171 (by decide) (by decide) ((lk_rf (by decide)).trans W1b) ?_
  refine lk_icmp_geN (a := (j) - (20)) (b := (lk_qa B nf k).1) (tgt := 91) dX9_queue_76 (by decide) (by omega) (by omega) (fun hh5 => ?_) (fun hh5 => absurd hh5 (by omega))
  refine lk_bipush (v := (-2)) dX9_queue_91 (by decide) ?_
  refine lk_iret .int dX9_queue_93 rfl rfl ?_
  rw [hQ]
  exact ⟨rfl, rfl, W1, rfl, W1f⟩
