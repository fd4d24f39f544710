def lk_trow (P : lk_O) : Nat → Int32 := fun f => if f = 0 then P 3 0 else if f = 1 then P 5 0 else if f = 2 then P 6 0 else if f = 3 then P 4 0 else P 7 0
def lk_frow (B : lk_O) (p : Nat) (r : Nat → Int32) : lk_O := fun f i => if f < 5 ∧ i = p then r f else B f i
def lk_shj (B : lk_O) (b j : Nat) : lk_O := fun f i => if f < 5 ∧ b ≤ i ∧ i < j then B f (i + 1) else B f i
def lk_frm (B : lk_O) (b n : Nat) : lk_O := fun f i => if f < 5 ∧ b ≤ i ∧ i + 1 < n then B f (i + 1) else if f = 5 ∧ i = 0 then nI (n - 1) else B f i
theorem lk_shj_0 (σ : lk_N) (f b : Nat) : lk_so σ f (lk_shj (σ f) b b) = σ := by
  have : lk_shj (σ f) b b = σ f := by
    funext g j
    simp only [lk_shj]
    rw [if_neg (by omega)]
  rw [this, lk_so_self]
theorem lk_shj_s (B : lk_O) {b j : Nat} (h : b ≤ j) : lk_fcr (lk_shj B b j) (j + 1) j = lk_shj B b (j + 1) := by
  funext f i
  simp only [lk_fcr, lk_shj]
  grind
theorem lk_shj_e (B : lk_O) {b n : Nat} (h : 1 ≤ n) : lk_ou (lk_shj B b (n - 1)) 5 0 (nI (n - 1)) = lk_frm B b n := by
  funext f i
  simp only [lk_ou, lk_shj, lk_frm]
  grind
def lk_lset (w v : Int32) : Bool := if w = 0 then decide (1 ≤ v) && decide (v ≤ 99) else if w = 1 then decide (0 ≤ v) && decide (v ≤ 3) else false
def lk_rset (w v : Int32) : Bool := decide (0 ≤ w) && decide (w ≤ 3) && decide (0 ≤ v) && decide (v ≤ if w = 3 then 99 else 9999)
set_option maxHeartbeats 1000000 in
set_option maxRecDepth 100000 in
theorem tX2_put_old (l : Launch) (X : lk_G) (d : Nat) (σ : lk_N) (τ : lk_T) (f : Nat) (hf : lk_ko f = 2) (t : Nat) (ht : lk_ko t = 6) (n p : Nat) (hn : σ f 5 0 = nI n) (hn22 : n < 22) (h01 : ∀ i, i < 22 → σ f 3 i = 0 ∨ σ f 3 i = 1) (ht01 : σ t 4 0 = 0 ∨ σ t 4 0 = 1) (hp : p = lk_fpl (σ f) (σ t 3 0) n 0) (hpn : p < n) (hpw : σ f 0 p = σ t 3 0) : lk_Mt l X mX2_put (d + 2) [lk_vr f 0, lk_vr t 0] σ τ (fun rr σ1 τ1 => rr = none ∧ σ1 = lk_so σ f (lk_frow (σ f) p (lk_trow (σ t))) ∧ τ1 = τ) := by
  refine lk_met (L := [(0, lk_vr f 0), (1, lk_vr t 0)]) (by decide +kernel) (Nat.le_of_ble_eq_true rfl) rfl ?_
  obtain ⟨Q, hQ⟩ : ∃ Q : lk_Q, Q = fun rr σ1 τ1 => rr = none ∧ σ1 = lk_so σ f (lk_frow (σ f) p (lk_trow (σ t))) ∧ τ1 = τ := ⟨_, rfl⟩
  rw [← hQ]
  have htf : ¬ t = f := by intro e; rw [e, hf] at ht; cases ht
  refine lk_aload_n dX2_put_0 rfl rfl ?_
  refine lk_aload_n dX2_put_1 rfl rfl ?_
  refine lk_getI (f := 3) dX2_put_2 ht fX2_38 (by decide) (by decide) ?_
  refine lk_callV (o := f) (as := [lk_vi (σ t 3 0)]) (S := []) dX2_put_5 rfl vX2_placeFor rfl lX2_42 hf rfl (Nat.le_of_ble_eq_true rfl) (tX2_placeFor_old l X d σ τ (f := f) (w := (σ t 3 0)) (hf := hf) (n := n) (hn := hn) (hn22 := hn22) (h01 := h01) (p := p) (hp := hp) (hpn := hpn) (hpw := hpw)) ?_
  refine lk_k3 ?_
  refine lk_cast (pc' := 8) (S' := [lk_vi (nI (p))]) rfl rfl rfl ?_
  refine lk_istore_n (L' := [(0, lk_vr f 0), (1, lk_vr t 0), (2, lk_vi (nI (p)))]) dX2_put_8 rfl (by decide +kernel) rfl ?_
  refine lk_iload_n dX2_put_9 rfl rfl ?_
  refine lk_if_geN (a := p) (tgt := 14) dX2_put_10 (by decide) (by omega) (fun hh1 => ?_) (fun hh1 => absurd hh1 (by omega))
  refine lk_aload_n dX2_put_14 rfl rfl ?_
  refine lk_getR (f := 0) dX2_put_15 hf fX2_11 (by decide) (by decide) ?_
  refine lk_iload_n dX2_put_18 rfl rfl ?_
  refine lk_aload_n dX2_put_19 rfl rfl ?_
  refine lk_getI (f := 3) dX2_put_20 ht fX2_38 (by decide) (by decide) ?_
  refine lk_iastN (f := 0) (i := p) (v := (σ t 3 0)) dX2_put_23 hf (by decide) rfl (by omega) (by decide) ?_
  refine lk_aload_n dX2_put_24 rfl rfl ?_
  refine lk_getR (f := 1) dX2_put_25 hf fX2_15 (by decide) (by decide) ?_
  refine lk_iload_n dX2_put_28 rfl rfl ?_
  refine lk_aload_n dX2_put_29 rfl rfl ?_
  refine lk_getI (f := 5) dX2_put_30 ht fX2_46 (by decide) (by decide) ?_
  refine lk_iastN (f := 1) (i := p) (v := ((lk_up σ f 0 (p) (σ t 3 0)) t 5 0)) dX2_put_33 hf (by decide) rfl (by omega) (by decide) ?_
  refine lk_aload_n dX2_put_34 rfl rfl ?_
  refine lk_getR (f := 2) dX2_put_35 hf fX2_18 (by decide) (by decide) ?_
  refine lk_iload_n dX2_put_38 rfl rfl ?_
  refine lk_aload_n dX2_put_39 rfl rfl ?_
  refine lk_getI (f := 6) dX2_put_40 ht fX2_48 (by decide) (by decide) ?_
  refine lk_iastN (f := 2) (i := p) (v := ((lk_up (lk_up σ f 0 (p) (σ t 3 0)) f 1 (p) ((lk_up σ f 0 (p) (σ t 3 0)) t 5 0)) t 6 0)) dX2_put_43 hf (by decide) rfl (by omega) (by decide) ?_
  refine lk_aload_n dX2_put_44 rfl rfl ?_
  refine lk_getR (f := 3) dX2_put_45 hf fX2_21 (by decide) (by decide) ?_
  refine lk_iload_n dX2_put_48 rfl rfl ?_
  refine lk_aload_n dX2_put_49 rfl rfl ?_
  refine lk_getI (f := 4) dX2_put_50 ht fX2_50 (by decide) (by decide) ?_
  refine lk_zastN (f := 3) (i := p) (v := ((lk_up (lk_up (lk_up σ f 0 (p) (σ t 3 0)) f 1 (p) ((lk_up σ f 0 (p) (σ t 3 0)) t 5 0)) f 2 (p) ((lk_up (lk_up σ f 0 (p) (σ t 3 0)) f 1 (p) ((lk_up σ f 0 (p) (σ t 3 0)) t 5 0)) t 6 0)) t 4 0)) dX2_put_53 hf (by decide) rfl (by omega) (by decide) (by simp only [lk_up_so, lk_so_ne htf]; exact ht01) ?_
  refine lk_aload_n dX2_put_54 rfl rfl ?_
  refine lk_getR (f := 4) dX2_put_55 hf fX2_25 (by decide) (by decide) ?_
  refine lk_iload_n dX2_put_58 rfl rfl ?_
  refine lk_aload_n dX2_put_59 rfl rfl ?_
  refine lk_getI (f := 7) dX2_put_60 ht fX2_53 (by decide) (by decide) ?_
  refine lk_iastN (f := 4) (i := p) (v := ((lk_up (lk_up (lk_up (lk_up σ f 0 (p) (σ t 3 0)) f 1 (p) ((lk_up σ f 0 (p) (σ t 3 0)) t 5 0)) f 2 (p) ((lk_up (lk_up σ f 0 (p) (σ t 3 0)) f 1 (p) ((lk_up σ f 0 (p) (σ t 3 0)) t 5 0)) t 6 0)) f 3 (p) ((lk_up (lk_up (lk_up σ f 0 (p) (σ t 3 0)) f 1 (p) ((lk_up σ f 0 (p) (σ t 3 0)) t 5 0)) f 2 (p) ((lk_up (lk_up σ f 0 (p) (σ t 3 0)) f 1 (p) ((lk_up σ f 0 (p) (σ t 3 0)) t 5 0)) t 6 0)) t 4 0)) t 7 0)) dX2_put_63 hf (by decide) rfl (by omega) (by decide) ?_
  refine lk_vret dX2_put_64 rfl ?_
  rw [hQ]
  refine ⟨rfl, ?_, rfl⟩
  simp only [lk_up_so, lk_so_so, lk_so_eq, lk_so_ne htf]
  congr 1; funext g j
  simp only [lk_ou, lk_frow, lk_trow]
  grind (splits := 24)

set_option maxHeartbeats 1000000 in
set_option maxRecDepth 100000 in
theorem tX2_put_new (l : Launch) (X : lk_G) (d : Nat) (σ : lk_N) (τ : lk_T) (f : Nat) (hf : lk_ko f = 2) (t : Nat) (ht : lk_ko t = 6) (n p : Nat) (hn : σ f 5 0 = nI n) (hn22 : n < 22) (h01 : ∀ i, i < 22 → σ f 3 i = 0 ∨ σ f 3 i = 1) (ht01 : σ t 4 0 = 0 ∨ σ t 4 0 = 1) (hp : p = lk_fpl (σ f) (σ t 3 0) n 0) (hpn : p ≤ n) (hpw : ¬ (p < n ∧ σ f 0 p = σ t 3 0)) : lk_Mt l X mX2_put (d + 2) [lk_vr f 0, lk_vr t 0] σ τ (fun rr σ1 τ1 => rr = none ∧ σ1 = lk_so σ f (lk_frow (lk_fsh (σ f) p n) p (lk_trow (σ t))) ∧ τ1 = τ) := by
  refine lk_met (L := [(0, lk_vr f 0), (1, lk_vr t 0)]) (by decide +kernel) (Nat.le_of_ble_eq_true rfl) rfl ?_
  obtain ⟨Q, hQ⟩ : ∃ Q : lk_Q, Q = fun rr σ1 τ1 => rr = none ∧ σ1 = lk_so σ f (lk_frow (lk_fsh (σ f) p n) p (lk_trow (σ t))) ∧ τ1 = τ := ⟨_, rfl⟩
  rw [← hQ]
  have htf : ¬ t = f := by intro e; rw [e, hf] at ht; cases ht
  refine lk_aload_n dX2_put_0 rfl rfl ?_
  refine lk_aload_n dX2_put_1 rfl rfl ?_
  refine lk_getI (f := 3) dX2_put_2 ht fX2_38 (by decide) (by decide) ?_
  refine lk_callV (o := f) (as := [lk_vi (σ t 3 0)]) (S := []) dX2_put_5 rfl vX2_placeFor rfl lX2_42 hf rfl (Nat.le_of_ble_eq_true rfl) (tX2_placeFor_new l X d σ τ (f := f) (w := (σ t 3 0)) (hf := hf) (n := n) (hn := hn) (hn22 := hn22) (h01 := h01) (p := p) (hp := hp) (hpw := hpw)) ?_
  refine lk_k3 ?_
  refine lk_cast (pc' := 8) (S' := [lk_vi (nI (p))]) rfl rfl rfl ?_
  refine lk_istore_n (L' := [(0, lk_vr f 0), (1, lk_vr t 0), (2, lk_vi (nI (p)))]) dX2_put_8 rfl (by decide +kernel) rfl ?_
  refine lk_iload_n dX2_put_9 rfl rfl ?_
  refine lk_if_geN (a := p) (tgt := 14) dX2_put_10 (by decide) (by omega) (fun hh1 => ?_) (fun hh1 => absurd hh1 (by omega))
  refine lk_aload_n dX2_put_14 rfl rfl ?_
  refine lk_getR (f := 0) dX2_put_15 hf fX2_11 (by decide) (by decide) ?_
  refine lk_iload_n dX2_put_18 rfl rfl ?_
  refine lk_aload_n dX2_put_19 rfl rfl ?_
  refine lk_getI (f := 3) dX2_put_20 ht fX2_38 (by decide) (by decide) ?_
  refine lk_iastN (f := 0) (i := p) (v := ((lk_so σ f (lk_fsh (σ f) p n)) t 3 0)) dX2_put_23 hf (by decide) rfl (by omega) (by decide) ?_
  refine lk_aload_n dX2_put_24 rfl rfl ?_
  refine lk_getR (f := 1) dX2_put_25 hf fX2_15 (by decide) (by decide) ?_
  refine lk_iload_n dX2_put_28 rfl rfl ?_
  refine lk_aload_n dX2_put_29 rfl rfl ?_
  refine lk_getI (f := 5) dX2_put_30 ht fX2_46 (by decide) (by decide) ?_
  refine lk_iastN (f := 1) (i := p) (v := ((lk_up (lk_so σ f (lk_fsh (σ f) p n)) f 0 (p) ((lk_so σ f (lk_fsh (σ f) p n)) t 3 0)) t 5 0)) dX2_put_33 hf (by decide) rfl (by omega) (by decide) ?_
  refine lk_aload_n dX2_put_34 rfl rfl ?_
  refine lk_getR (f := 2) dX2_put_35 hf fX2_18 (by decide) (by decide) ?_
  refine lk_iload_n dX2_put_38 rfl rfl ?_
  refine lk_aload_n dX2_put_39 rfl rfl ?_
  refine lk_getI (f := 6) dX2_put_40 ht fX2_48 (by decide) (by decide) ?_
  refine lk_iastN (f := 2) (i := p) (v := ((lk_up (lk_up (lk_so σ f (lk_fsh (σ f) p n)) f 0 (p) ((lk_so σ f (lk_fsh (σ f) p n)) t 3 0)) f 1 (p) ((lk_up (lk_so σ f (lk_fsh (σ f) p n)) f 0 (p) ((lk_so σ f (lk_fsh (σ f) p n)) t 3 0)) t 5 0)) t 6 0)) dX2_put_43 hf (by decide) rfl (by omega) (by decide) ?_
  refine lk_aload_n dX2_put_44 rfl rfl ?_
  refine lk_getR (f := 3) dX2_put_45 hf fX2_21 (by decide) (by decide) ?_
  refine lk_iload_n dX2_put_48 rfl rfl ?_
  refine lk_aload_n dX2_put_49 rfl rfl ?_
  refine lk_getI (f := 4) dX2_put_50 ht fX2_50 (by decide) (by decide) ?_
  refine lk_zastN (f := 3) (i := p) (v := ((lk_up (lk_up (lk_up (lk_so σ f (lk_fsh (σ f) p n)) f 0 (p) ((lk_so σ f (lk_fsh (σ f) p n)) t 3 0)) f 1 (p) ((lk_up (lk_so σ f (lk_fsh (σ f) p n)) f 0 (p) ((lk_so σ f (lk_fsh (σ f) p n)) t 3 0)) t 5 0)) f 2 (p) ((lk_up (lk_up (lk_so σ f (lk_fsh (σ f) p n)) f 0 (p) ((lk_so σ f (lk_fsh (σ f) p n)) t 3 0)) f 1 (p) ((lk_up (lk_so σ f (lk_fsh (σ f) p n)) f 0 (p) ((lk_so σ f (lk_fsh (σ f) p n)) t 3 0)) t 5 0)) t 6 0)) t 4 0)) dX2_put_53 hf (by decide) rfl (by omega) (by decide) (by simp only [lk_up_so, lk_so_ne htf]; exact ht01) ?_
  refine lk_aload_n dX2_put_54 rfl rfl ?_
  refine lk_getR (f := 4) dX2_put_55 hf fX2_25 (by decide) (by decide) ?_
  refine lk_iload_n dX2_put_58 rfl rfl ?_
  refine lk_aload_n dX2_put_59 rfl rfl ?_
  refine lk_getI (f := 7) dX2_put_60 ht fX2_53 (by decide) (by decide) ?_
  refine lk_iastN (f := 4) (i := p) (v := ((lk_up (lk_up (lk_up (lk_up (lk_so σ f (lk_fsh (σ f) p n)) f 0 (p) ((lk_so σ f (lk_fsh (σ f) p n)) t 3 0)) f 1 (p) ((lk_up (lk_so σ f (lk_fsh (σ f) p n)) f 0 (p) ((lk_so σ f (lk_fsh (σ f) p n)) t 3 0)) t 5 0)) f 2 (p) ((lk_up (lk_up (lk_so σ f (lk_fsh (σ f) p n)) f 0 (p) ((lk_so σ f (lk_fsh (σ f) p n)) t 3 0)) f 1 (p) ((lk_up (lk_so σ f (lk_fsh (σ f) p n)) f 0 (p) ((lk_so σ f (lk_fsh (σ f) p n)) t 3 0)) t 5 0)) t 6 0)) f 3 (p) ((lk_up (lk_up (lk_up (lk_so σ f (lk_fsh (σ f) p n)) f 0 (p) ((lk_so σ f (lk_fsh (σ f) p n)) t 3 0)) f 1 (p) ((lk_up (lk_so σ f (lk_fsh (σ f) p n)) f 0 (p) ((lk_so σ f (lk_fsh (σ f) p n)) t 3 0)) t 5 0)) f 2 (p) ((lk_up (lk_up (lk_so σ f (lk_fsh (σ f) p n)) f 0 (p) ((lk_so σ f (lk_fsh (σ f) p n)) t 3 0)) f 1 (p) ((lk_up (lk_so σ f (lk_fsh (σ f) p n)) f 0 (p) ((lk_so σ f (lk_fsh (σ f) p n)) t 3 0)) t 5 0)) t 6 0)) t 4 0)) t 7 0)) dX2_put_63 hf (by decide) rfl (by omega) (by decide) ?_
  refine lk_vret dX2_put_64 rfl ?_
  rw [hQ]
  refine ⟨rfl, ?_, rfl⟩
  simp only [lk_up_so, lk_so_so, lk_so_eq, lk_so_ne htf]
  congr 1; funext g j
  simp only [lk_ou, lk_frow, lk_trow]
  grind (splits := 24)

set_option maxHeartbeats 1000000 in
set_option maxRecDepth 100000 in
theorem tX2_remove (l : Launch) (X : lk_G) (d : Nat) (σ : lk_N) (τ : lk_T) (f : Nat) (hf : lk_ko f = 2) (n b : Nat) (hn : σ f 5 0 = nI n) (hb : b < n) (hn22 : n ≤ 22) (h01 : ∀ i, i < 22 → σ f 3 i = 0 ∨ σ f 3 i = 1) : lk_Mt l X mX2_remove (d + 1) [lk_vr f 0, lk_vi (nI (b))] σ τ (fun rr σ1 τ1 => rr = none ∧ σ1 = lk_so σ f (lk_frm (σ f) b n) ∧ τ1 = τ) := by
  refine lk_met (L := [(0, lk_vr f 0), (1, lk_vi (nI (b)))]) (by decide +kernel) (Nat.le_of_ble_eq_true rfl) rfl ?_
  obtain ⟨Q, hQ⟩ : ∃ Q : lk_Q, Q = fun rr σ1 τ1 => rr = none ∧ σ1 = lk_so σ f (lk_frm (σ f) b n) ∧ τ1 = τ := ⟨_, rfl⟩
  rw [← hQ]
  refine lk_aload_n dX2_remove_0 rfl rfl ?_
  refine lk_iload_n dX2_remove_1 rfl rfl ?_
  refine lk_callV (o := f) (as := [lk_vi (nI (b))]) (S := []) dX2_remove_2 rfl vX2_has rfl lX2_59 hf rfl (Nat.le_of_ble_eq_true rfl) (tX2_has_in l X d σ τ (f := f) (b := (b)) (hf := hf) (n := n) (hn := hn) (hb := hb) (hn22 := hn22)) ?_
  refine lk_k3 ?_
  refine lk_cast (pc' := 5) (S' := [lk_vi 1]) rfl rfl rfl ?_
  refine lk_if_ne (tgt := 9) dX2_remove_5 (by decide) (fun hh1 => ?_) (fun hh1 => absurd hh1 (by decide))
  refine lk_iload_n dX2_remove_9 rfl rfl ?_
  refine lk_istore_n (L' := [(0, lk_vr f 0), (1, lk_vi (nI (b))), (2, lk_vi (nI (b)))]) dX2_remove_10 rfl (by decide +kernel) rfl ?_
  have LP11 : ∀ (fu : Nat) (j : Nat), b ≤ j → j + 1 ≤ n → n - j < fu → lk_W l X mX2_remove (d + 1) 11 [(0, lk_vr f 0), (1, lk_vi (nI (b))), (2, lk_vi (nI (j)))] [] (lk_so σ f (lk_shj (σ f) b j)) τ Q := by
    intro fu
    induction fu with
    | zero => intro j hbj hjn hfu; exact absurd hfu (by omega)
    | succ fu ih =>
      intro j hbj hjn hfu
      refine lk_iload_n dX2_remove_11 rfl rfl ?_
      refine lk_iconst (v := 1) dX2_remove_12 (by decide) ?_
      refine lk_iaddN (a := j) (b := 1) dX2_remove_13 ?_
      refine lk_aload_n dX2_remove_14 rfl rfl ?_
      refine lk_getIv (v := nI (n)) (f := 5) dX2_remove_15 hf fX2_28 (by decide) (by decide) (by rw [lk_so_eq]; simp [lk_shj, hn]) ?_
      refine lk_icmp_geN (a := j + 1) (b := n) (tgt := 35) dX2_remove_18 (by decide) (by omega) (by omega) (fun hh2 => ?_) (fun hh2 => ?_)
      ·
        refine lk_aload_n dX2_remove_35 rfl rfl ?_
        refine lk_dup dX2_remove_36 rfl ?_
        refine lk_getIv (v := nI (n)) (f := 5) dX2_remove_37 hf fX2_28 (by decide) (by decide) (by rw [lk_so_eq]; simp [lk_shj, hn]) ?_
        refine lk_iconst (v := 1) dX2_remove_40 (by decide) ?_
        refine lk_isubN (a := n) (b := 1) dX2_remove_41 (by omega) ?_
        refine lk_putI (f := 5) dX2_remove_42 hf fX2_28 (by decide) (by decide) ?_
        refine lk_vret dX2_remove_45 rfl ?_
        rw [hQ]
        have hj : j = n - 1 := by omega
        subst hj
        refine ⟨rfl, ?_, rfl⟩
        rw [lk_up_so, lk_so_so, lk_so_eq, lk_shj_e _ (by omega)]
      ·
        refine lk_aload_n dX2_remove_21 rfl rfl ?_
        refine lk_iload_n dX2_remove_22 rfl rfl ?_
        refine lk_iconst (v := 1) dX2_remove_23 (by decide) ?_
        refine lk_iaddN (a := j) (b := 1) dX2_remove_24 ?_
        refine lk_iload_n dX2_remove_25 rfl rfl ?_
        refine lk_callV (o := f) (as := [lk_vi (nI (j + 1)), lk_vi (nI (j))]) (S := []) dX2_remove_26 rfl vX2_copyRow rfl lX2_55 hf rfl (Nat.le_of_ble_eq_true rfl) (tX2_copyRow l X d (lk_so σ f (lk_shj (σ f) b j)) τ (f := f) (a := (j + 1)) (b := (j)) (hf := hf) (ha := by omega) (hb := by omega) (h01 := by rw [lk_so_eq]; simp only [lk_shj]; rw [if_neg (by omega)]; exact h01 (j + 1) (by omega))) ?_
        refine lk_k3 ?_
        refine lk_cast (pc' := 29) (S' := []) rfl rfl rfl ?_
        refine lk_iincN (a := j) (m := 1) (L' := [(0, lk_vr f 0), (1, lk_vi (nI (b))), (2, lk_vi (nI (j + 1)))]) dX2_remove_29 rfl rfl (by decide +kernel) rfl ?_
        refine lk_goto (tgt := 11) dX2_remove_32 (by decide) ?_
        rw [lk_so_so, lk_so_eq, lk_shj_s _ hbj]
        exact ih (j + 1) (by omega) (by omega) (by omega)
  rw [← lk_shj_0 σ f b]
  exact LP11 (n + 1) b (Nat.le_refl _) (by omega) (by omega)

set_option maxHeartbeats 1000000 in
set_option maxRecDepth 100000 in
theorem tX8_locks_bad (l : Launch) (X : lk_G) (d : Nat) (σ : lk_N) (τ : lk_T) (v : Int32) (h : v < 1 ∨ 6 < v) : lk_Mt l X mX8_locks (d + 1) [lk_vr 0 0, lk_vi (v)] σ τ (fun rr σ1 τ1 => rr = some (lk_vi (-1)) ∧ σ1 = σ ∧ τ1 = τ) := by
  refine lk_met (L := [(0, lk_vr 0 0), (1, lk_vi (v))]) (by decide +kernel) (Nat.le_of_ble_eq_true rfl) rfl ?_
  obtain ⟨Q, hQ⟩ : ∃ Q : lk_Q, Q = fun rr σ1 τ1 => rr = some (lk_vi (-1)) ∧ σ1 = σ ∧ τ1 = τ := ⟨_, rfl⟩
  rw [← hQ]
  refine lk_iload_n dX8_locks_0 rfl rfl ?_
  refine lk_iconst (v := 1) dX8_locks_1 (by decide) ?_
  refine lk_icmp_lt (tgt := 11) dX8_locks_2 (by decide) (fun hh1 => ?_) (fun hh1 => ?_)
  ·
    refine lk_iconst (v := (-1)) dX8_locks_11 (by decide) ?_
    refine lk_iret .int dX8_locks_12 rfl rfl ?_
    rw [hQ]
    first | exact ⟨rfl, rfl, rfl⟩ | (exfalso; rcases h with h | h <;> first | contradiction | exact absurd h (Int32.not_lt.mpr (by assumption)))
  ·
    refine lk_iload_n dX8_locks_5 rfl rfl ?_
    refine lk_bipush (v := 6) dX8_locks_6 (by decide) ?_
    refine lk_icmp_le (tgt := 13) dX8_locks_8 (by decide) (fun hh2 => ?_) (fun hh2 => ?_)
    ·
      exact absurd h (by rintro (z | z) <;> first | contradiction | exact absurd z (Int32.not_lt.mpr (by assumption)))
    ·
      refine lk_iconst (v := (-1)) dX8_locks_11 (by decide) ?_
      refine lk_iret .int dX8_locks_12 rfl rfl ?_
      rw [hQ]
      first | exact ⟨rfl, rfl, rfl⟩ | (exfalso; rcases h with h | h <;> first | contradiction | exact absurd h (Int32.not_lt.mpr (by assumption)))

set_option maxHeartbeats 1000000 in
set_option maxRecDepth 100000 in
theorem tX8_locks_ok (l : Launch) (X : lk_G) (d : Nat) (σ : lk_N) (τ : lk_T) (v : Int32) (h : ¬ v < 1) (h6 : v ≤ 6) : lk_Mt l X mX8_locks (d + 1) [lk_vr 0 0, lk_vi (v)] σ τ (fun rr σ1 τ1 => rr = some (lk_vi (σ 2 0 0)) ∧ σ1 = lk_up (lk_so σ 2 (lk_rst v (σ 2))) 11 5 0 0 ∧ τ1 = τ) := by
  refine lk_met (L := [(0, lk_vr 0 0), (1, lk_vi (v))]) (by decide +kernel) (Nat.le_of_ble_eq_true rfl) rfl ?_
  obtain ⟨Q, hQ⟩ : ∃ Q : lk_Q, Q = fun rr σ1 τ1 => rr = some (lk_vi (σ 2 0 0)) ∧ σ1 = lk_up (lk_so σ 2 (lk_rst v (σ 2))) 11 5 0 0 ∧ τ1 = τ := ⟨_, rfl⟩
  rw [← hQ]
  refine lk_iload_n dX8_locks_0 rfl rfl ?_
  refine lk_iconst (v := 1) dX8_locks_1 (by decide) ?_
  refine lk_icmp_lt (tgt := 11) dX8_locks_2 (by decide) (fun hh1 => absurd hh1 h) (fun hh1 => ?_)
  refine lk_iload_n dX8_locks_5 rfl rfl ?_
  refine lk_bipush (v := 6) dX8_locks_6 (by decide) ?_
  refine lk_icmp_le (tgt := 13) dX8_locks_8 (by decide) (fun hh2 => ?_) (fun hh2 => absurd hh2 (by intro q; exact q h6))
  refine lk_aload_n dX8_locks_13 rfl rfl ?_
  refine lk_getO (f := 0) (o' := 2) dX8_locks_14 rfl fX8_14 (by decide) (by decide) rfl ?_
  refine lk_getI (f := 0) dX8_locks_17 rfl fX8_72 (by decide) (by decide) ?_
  refine lk_istore_n (L' := [(0, lk_vr 0 0), (1, lk_vi (v)), (2, lk_vi (σ 2 0 0))]) dX8_locks_20 rfl (by decide +kernel) rfl ?_
  refine lk_aload_n dX8_locks_21 rfl rfl ?_
  refine lk_getO (f := 0) (o' := 2) dX8_locks_22 rfl fX8_14 (by decide) (by decide) rfl ?_
  refine lk_iload_n dX8_locks_25 rfl rfl ?_
  refine lk_callV (o := 2) (as := [lk_vi (v)]) (S := []) dX8_locks_26 rfl vX0_reset rfl lX8_68 rfl rfl (Nat.le_of_ble_eq_true rfl) (tX0_reset l X d σ τ (c := 2) (n := (v)) (hc := rfl)) ?_
  refine lk_k3 ?_
  refine lk_cast (pc' := 29) (S' := []) rfl rfl rfl ?_
  refine lk_aload_n dX8_locks_29 rfl rfl ?_
  refine lk_getO (f := 1) (o' := 11) dX8_locks_30 rfl fX8_21 (by decide) (by decide) rfl ?_
  refine lk_iconst (v := 0) dX8_locks_33 (by decide) ?_
  refine lk_putI (f := 5) dX8_locks_34 rfl fX8_76 (by decide) (by decide) ?_
  refine lk_iload_n dX8_locks_37 rfl rfl ?_
  refine lk_iret .int dX8_locks_38 rfl rfl ?_
  rw [hQ]
  exact ⟨by first | rfl | (simp [*]; done) | (simp_all; done) | grind, by first | rfl | (simp [*]; done), rfl⟩

set_option maxHeartbeats 1000000 in
set_option maxRecDepth 100000 in
theorem tX8_isLockSetting (l : Launch) (X : lk_G) (d : Nat) (σ : lk_N) (τ : lk_T) (w v : Int32) : lk_Mt l X mX8_isLockSetting d [lk_vi (w), lk_vi (v)] σ τ (fun rr σ1 τ1 => rr = some (lk_vi (if lk_lset w v = true then 1 else 0)) ∧ σ1 = σ ∧ τ1 = τ) := by
  refine lk_met (L := [(0, lk_vi (w)), (1, lk_vi (v))]) (by decide +kernel) (Nat.le_of_ble_eq_true rfl) rfl ?_
  obtain ⟨Q, hQ⟩ : ∃ Q : lk_Q, Q = fun rr σ1 τ1 => rr = some (lk_vi (if lk_lset w v = true then 1 else 0)) ∧ σ1 = σ ∧ τ1 = τ := ⟨_, rfl⟩
  rw [← hQ]
  refine lk_iload_n dX8_isLockSetting_0 rfl rfl ?_
  by_cases hh1 : (w) = 0
  ·
    refine lk_lookup (off := 27) (tgt := 28) dX8_isLockSetting_1 rfl (by rw [hh1]; rfl) (by decide) ?_
    refine lk_iload_n dX8_isLockSetting_28 rfl rfl ?_
    refine lk_iconst (v := 1) dX8_isLockSetting_29 (by decide) ?_
    refine lk_icmp_lt (tgt := 43) dX8_isLockSetting_30 (by decide) (fun hh2 => ?_) (fun hh2 => ?_)
    ·
      refine lk_iconst (v := 0) dX8_isLockSetting_43 (by decide) ?_
      refine lk_iret .boolean dX8_isLockSetting_44 rfl rfl ?_
      rw [hQ]
      refine ⟨?_, rfl, rfl⟩
      grind [lk_lset]
    ·
      refine lk_iload_n dX8_isLockSetting_33 rfl rfl ?_
      refine lk_bipush (v := 99) dX8_isLockSetting_34 (by decide) ?_
      refine lk_icmp_gt (tgt := 43) dX8_isLockSetting_36 (by decide) (fun hh3 => ?_) (fun hh3 => ?_)
      ·
        refine lk_iconst (v := 0) dX8_isLockSetting_43 (by decide) ?_
        refine lk_iret .boolean dX8_isLockSetting_44 rfl rfl ?_
        rw [hQ]
        refine ⟨?_, rfl, rfl⟩
        grind [lk_lset]
      ·
        refine lk_iconst (v := 1) dX8_isLockSetting_39 (by decide) ?_
        refine lk_goto (tgt := 44) dX8_isLockSetting_40 (by decide) ?_
        refine lk_iret .boolean dX8_isLockSetting_44 rfl rfl ?_
        rw [hQ]
        refine ⟨?_, rfl, rfl⟩
        grind [lk_lset]
  by_cases hh4 : (w) = 1
  ·
    refine lk_lookup (off := 44) (tgt := 45) dX8_isLockSetting_1 rfl (by rw [hh4]; rfl) (by decide) ?_
    refine lk_iload_n dX8_isLockSetting_45 rfl rfl ?_
    refine lk_if_lt (tgt := 58) dX8_isLockSetting_46 (by decide) (fun hh5 => ?_) (fun hh5 => ?_)
    ·
      refine lk_iconst (v := 0) dX8_isLockSetting_58 (by decide) ?_
      refine lk_iret .boolean dX8_isLockSetting_59 rfl rfl ?_
      rw [hQ]
      refine ⟨?_, rfl, rfl⟩
      grind [lk_lset]
    ·
      refine lk_iload_n dX8_isLockSetting_49 rfl rfl ?_
      refine lk_iconst (v := 3) dX8_isLockSetting_50 (by decide) ?_
      refine lk_icmp_gt (tgt := 58) dX8_isLockSetting_51 (by decide) (fun hh6 => ?_) (fun hh6 => ?_)
      ·
        refine lk_iconst (v := 0) dX8_isLockSetting_58 (by decide) ?_
        refine lk_iret .boolean dX8_isLockSetting_59 rfl rfl ?_
        rw [hQ]
        refine ⟨?_, rfl, rfl⟩
        grind [lk_lset]
      ·
        refine lk_iconst (v := 1) dX8_isLockSetting_54 (by decide) ?_
        refine lk_goto (tgt := 59) dX8_isLockSetting_55 (by decide) ?_
        refine lk_iret .boolean dX8_isLockSetting_59 rfl rfl ?_
        rw [hQ]
        refine ⟨?_, rfl, rfl⟩
        grind [lk_lset]
  refine lk_lookup (off := 59) (tgt := 60) dX8_isLockSetting_1 rfl ((lv_osw (a := 0) (o := 27) (d := 59) (r := [(1, 44)]) hh1 rfl).trans ((lv_osw (a := 1) (o := 44) (d := 59) (r := []) hh4 rfl).trans rfl)) (by decide) ?_
  refine lk_iconst (v := 0) dX8_isLockSetting_60 (by decide) ?_
  refine lk_iret .boolean dX8_isLockSetting_61 rfl rfl ?_
  rw [hQ]
  refine ⟨?_, rfl, rfl⟩
  grind [lk_lset]

set_option maxHeartbeats 1000000 in
set_option maxRecDepth 100000 in
theorem tX8_isReachSetting (l : Launch) (X : lk_G) (d : Nat) (σ : lk_N) (τ : lk_T) (w v : Int32) : lk_Mt l X mX8_isReachSetting d [lk_vi (w), lk_vi (v)] σ τ (fun rr σ1 τ1 => rr = some (lk_vi (if lk_rset w v = true then 1 else 0)) ∧ σ1 = σ ∧ τ1 = τ) := by
  refine lk_met (L := [(0, lk_vi (w)), (1, lk_vi (v))]) (by decide +kernel) (Nat.le_of_ble_eq_true rfl) rfl ?_
  obtain ⟨Q, hQ⟩ : ∃ Q : lk_Q, Q = fun rr σ1 τ1 => rr = some (lk_vi (if lk_rset w v = true then 1 else 0)) ∧ σ1 = σ ∧ τ1 = τ := ⟨_, rfl⟩
  rw [← hQ]
  refine lk_iload_n dX8_isReachSetting_0 rfl rfl ?_
  refine lk_if_lt (tgt := 9) dX8_isReachSetting_1 (by decide) (fun hh1 => ?_) (fun hh1 => ?_)
  ·
    refine lk_iconst (v := 0) dX8_isReachSetting_9 (by decide) ?_
    refine lk_iret .boolean dX8_isReachSetting_10 rfl rfl ?_
    rw [hQ]
    refine ⟨?_, rfl, rfl⟩
    grind [lk_rset]
  ·
    refine lk_iload_n dX8_isReachSetting_4 rfl rfl ?_
    refine lk_iconst (v := 3) dX8_isReachSetting_5 (by decide) ?_
    refine lk_icmp_le (tgt := 11) dX8_isReachSetting_6 (by decide) (fun hh2 => ?_) (fun hh2 => ?_)
    ·
      refine lk_iload_n dX8_isReachSetting_11 rfl rfl ?_
      refine lk_if_lt (tgt := 36) dX8_isReachSetting_12 (by decide) (fun hh3 => ?_) (fun hh3 => ?_)
      ·
        refine lk_iconst (v := 0) dX8_isReachSetting_36 (by decide) ?_
        refine lk_iret .boolean dX8_isReachSetting_37 rfl rfl ?_
        rw [hQ]
        refine ⟨?_, rfl, rfl⟩
        grind [lk_rset]
      ·
        refine lk_iload_n dX8_isReachSetting_15 rfl rfl ?_
        refine lk_iload_n dX8_isReachSetting_16 rfl rfl ?_
        refine lk_iconst (v := 3) dX8_isReachSetting_17 (by decide) ?_
        refine lk_icmp_ne (tgt := 26) dX8_isReachSetting_18 (by decide) (fun hh4 => ?_) (fun hh4 => ?_)
        ·
          refine lk_sipush (v := 9999) dX8_isReachSetting_26 (by decide) ?_
          refine lk_icmp_gt (tgt := 36) dX8_isReachSetting_29 (by decide) (fun hh5 => ?_) (fun hh5 => ?_)
          ·
            refine lk_iconst (v := 0) dX8_isReachSetting_36 (by decide) ?_
            refine lk_iret .boolean dX8_isReachSetting_37 rfl rfl ?_
            rw [hQ]
            refine ⟨?_, rfl, rfl⟩
            grind [lk_rset]
          ·
            refine lk_iconst (v := 1) dX8_isReachSetting_32 (by decide) ?_
            refine lk_goto (tgt := 37) dX8_isReachSetting_33 (by decide) ?_
            refine lk_iret .boolean dX8_isReachSetting_37 rfl rfl ?_
            rw [hQ]
            refine ⟨?_, rfl, rfl⟩
            grind [lk_rset]
        ·
          refine lk_bipush (v := 99) dX8_isReachSetting_21 (by decide) ?_
          refine lk_goto (tgt := 29) dX8_isReachSetting_23 (by decide) ?_
          refine lk_icmp_gt (tgt := 36) dX8_isReachSetting_29 (by decide) (fun hh6 => ?_) (fun hh6 => ?_)
          ·
            refine lk_iconst (v := 0) dX8_isReachSetting_36 (by decide) ?_
            refine lk_iret .boolean dX8_isReachSetting_37 rfl rfl ?_
            rw [hQ]
            refine ⟨?_, rfl, rfl⟩
            grind [lk_rset]
          ·
            refine lk_iconst (v := 1) dX8_isReachSetting_32 (by decide) ?_
            refine lk_goto (tgt := 37) dX8_isReachSetting_33 (by decide) ?_
            refine lk_iret .boolean dX8_isReachSetting_37 rfl rfl ?_
            rw [hQ]
            refine ⟨?_, rfl, rfl⟩
            grind [lk_rset]
    ·
      refine lk_iconst (v := 0) dX8_isReachSetting_9 (by decide) ?_
      refine lk_iret .boolean dX8_isReachSetting_10 rfl rfl ?_
      rw [hQ]
      refine ⟨?_, rfl, rfl⟩
      grind [lk_rset]

set_option maxHeartbeats 1000000 in
set_option maxRecDepth 100000 in
theorem tX8_feeds_bad (l : Launch) (X : lk_G) (d : Nat) (σ : lk_N) (τ : lk_T) (v : Int32) (h : v < 0 ∨ 999 < v) : lk_Mt l X mX8_feeds d [lk_vr 0 0, lk_vi (v)] σ τ (fun rr σ1 τ1 => rr = some (lk_vi (-1)) ∧ σ1 = σ ∧ τ1 = τ) := by
  refine lk_met (L := [(0, lk_vr 0 0), (1, lk_vi (v))]) (by decide +kernel) (Nat.le_of_ble_eq_true rfl) rfl ?_
  obtain ⟨Q, hQ⟩ : ∃ Q : lk_Q, Q = fun rr σ1 τ1 => rr = some (lk_vi (-1)) ∧ σ1 = σ ∧ τ1 = τ := ⟨_, rfl⟩
  rw [← hQ]
  refine lk_iload_n dX8_feeds_0 rfl rfl ?_
  refine lk_if_lt (tgt := 11) dX8_feeds_1 (by decide) (fun hh1 => ?_) (fun hh1 => ?_)
  ·
    refine lk_iconst (v := (-1)) dX8_feeds_11 (by decide) ?_
    refine lk_iret .int dX8_feeds_12 rfl rfl ?_
    rw [hQ]
    first | exact ⟨rfl, rfl, rfl⟩ | (exfalso; rcases h with h | h <;> first | contradiction | exact absurd h (Int32.not_lt.mpr (by assumption)))
  ·
    refine lk_iload_n dX8_feeds_4 rfl rfl ?_
    refine lk_sipush (v := 999) dX8_feeds_5 (by decide) ?_
    refine lk_icmp_le (tgt := 13) dX8_feeds_8 (by decide) (fun hh2 => ?_) (fun hh2 => ?_)
    ·
      exact absurd h (by rintro (z | z) <;> first | contradiction | exact absurd z (Int32.not_lt.mpr (by assumption)))
    ·
      refine lk_iconst (v := (-1)) dX8_feeds_11 (by decide) ?_
      refine lk_iret .int dX8_feeds_12 rfl rfl ?_
      rw [hQ]
      first | exact ⟨rfl, rfl, rfl⟩ | (exfalso; rcases h with h | h <;> first | contradiction | exact absurd h (Int32.not_lt.mpr (by assumption)))

set_option maxHeartbeats 1000000 in
set_option maxRecDepth 100000 in
theorem tX8_feeds_ok (l : Launch) (X : lk_G) (d : Nat) (σ : lk_N) (τ : lk_T) (v : Int32) (h : ¬ v < 0) (h6 : v ≤ 999) : lk_Mt l X mX8_feeds d [lk_vr 0 0, lk_vi (v)] σ τ (fun rr σ1 τ1 => rr = some (lk_vi (σ 2 1 0)) ∧ σ1 = lk_up σ 2 1 0 v ∧ τ1 = τ) := by
  refine lk_met (L := [(0, lk_vr 0 0), (1, lk_vi (v))]) (by decide +kernel) (Nat.le_of_ble_eq_true rfl) rfl ?_
  obtain ⟨Q, hQ⟩ : ∃ Q : lk_Q, Q = fun rr σ1 τ1 => rr = some (lk_vi (σ 2 1 0)) ∧ σ1 = lk_up σ 2 1 0 v ∧ τ1 = τ := ⟨_, rfl⟩
  rw [← hQ]
  refine lk_iload_n dX8_feeds_0 rfl rfl ?_
  refine lk_if_lt (tgt := 11) dX8_feeds_1 (by decide) (fun hh1 => absurd hh1 h) (fun hh1 => ?_)
  refine lk_iload_n dX8_feeds_4 rfl rfl ?_
  refine lk_sipush (v := 999) dX8_feeds_5 (by decide) ?_
  refine lk_icmp_le (tgt := 13) dX8_feeds_8 (by decide) (fun hh2 => ?_) (fun hh2 => absurd hh2 (by intro q; exact q h6))
  refine lk_aload_n dX8_feeds_13 rfl rfl ?_
  refine lk_getO (f := 0) (o' := 2) dX8_feeds_14 rfl fX8_14 (by decide) (by decide) rfl ?_
  refine lk_getI (f := 1) dX8_feeds_17 rfl fX8_127 (by decide) (by decide) ?_
  refine lk_istore_n (L' := [(0, lk_vr 0 0), (1, lk_vi (v)), (2, lk_vi (σ 2 1 0))]) dX8_feeds_20 rfl (by decide +kernel) rfl ?_
  refine lk_aload_n dX8_feeds_21 rfl rfl ?_
  refine lk_getO (f := 0) (o' := 2) dX8_feeds_22 rfl fX8_14 (by decide) (by decide) rfl ?_
  refine lk_iload_n dX8_feeds_25 rfl rfl ?_
  refine lk_putI (f := 1) dX8_feeds_26 rfl fX8_127 (by decide) (by decide) ?_
  refine lk_iload_n dX8_feeds_29 rfl rfl ?_
  refine lk_iret .int dX8_feeds_30 rfl rfl ?_
  rw [hQ]
  exact ⟨by first | rfl | (simp [*]; done) | (simp_all; done) | grind, by first | rfl | (simp [*]; done), rfl⟩

set_option maxHeartbeats 1000000 in
set_option maxRecDepth 100000 in
theorem tX8_isRule (l : Launch) (X : lk_G) (d : Nat) (σ : lk_N) (τ : lk_T) (v : Int32) : lk_Mt l X mX8_isRule d [lk_vi (v)] σ τ (fun rr σ1 τ1 => rr = some (lk_vi (if 0 ≤ v ∧ v < 4 then 1 else 0)) ∧ σ1 = σ ∧ τ1 = τ) := by
  refine lk_met (L := [(0, lk_vi (v))]) (by decide +kernel) (Nat.le_of_ble_eq_true rfl) rfl ?_
  obtain ⟨Q, hQ⟩ : ∃ Q : lk_Q, Q = fun rr σ1 τ1 => rr = some (lk_vi (if 0 ≤ v ∧ v < 4 then 1 else 0)) ∧ σ1 = σ ∧ τ1 = τ := ⟨_, rfl⟩
  rw [← hQ]
  refine lk_iload_n dX8_isRule_0 rfl rfl ?_
  refine lk_if_lt (tgt := 13) dX8_isRule_1 (by decide) (fun hh1 => ?_) (fun hh1 => ?_)
  ·
    refine lk_iconst (v := 0) dX8_isRule_13 (by decide) ?_
    refine lk_iret .boolean dX8_isRule_14 rfl rfl ?_
    rw [hQ]
    refine ⟨?_, rfl, rfl⟩
    grind
  ·
    refine lk_iload_n dX8_isRule_4 rfl rfl ?_
    refine lk_iconst (v := 4) dX8_isRule_5 (by decide) ?_
    refine lk_icmp_ge (tgt := 13) dX8_isRule_6 (by decide) (fun hh2 => ?_) (fun hh2 => ?_)
    ·
      refine lk_iconst (v := 0) dX8_isRule_13 (by decide) ?_
      refine lk_iret .boolean dX8_isRule_14 rfl rfl ?_
      rw [hQ]
      refine ⟨?_, rfl, rfl⟩
      grind
    ·
      refine lk_iconst (v := 1) dX8_isRule_9 (by decide) ?_
      refine lk_goto (tgt := 14) dX8_isRule_10 (by decide) ?_
      refine lk_iret .boolean dX8_isRule_14 rfl rfl ?_
      rw [hQ]
      refine ⟨?_, rfl, rfl⟩
      grind

set_option maxHeartbeats 1000000 in
set_option maxRecDepth 100000 in
theorem tX8_isTraffic (l : Launch) (X : lk_G) (d : Nat) (σ : lk_N) (τ : lk_T) (v : Int32) : lk_Mt l X mX8_isTraffic d [lk_vi (v)] σ τ (fun rr σ1 τ1 => rr = some (lk_vi (if 0 ≤ v ∧ v ≤ 4 then 1 else 0)) ∧ σ1 = σ ∧ τ1 = τ) := by
  refine lk_met (L := [(0, lk_vi (v))]) (by decide +kernel) (Nat.le_of_ble_eq_true rfl) rfl ?_
  obtain ⟨Q, hQ⟩ : ∃ Q : lk_Q, Q = fun rr σ1 τ1 => rr = some (lk_vi (if 0 ≤ v ∧ v ≤ 4 then 1 else 0)) ∧ σ1 = σ ∧ τ1 = τ := ⟨_, rfl⟩
  rw [← hQ]
  refine lk_iload_n dX8_isTraffic_0 rfl rfl ?_
  refine lk_if_lt (tgt := 13) dX8_isTraffic_1 (by decide) (fun hh1 => ?_) (fun hh1 => ?_)
  ·
    refine lk_iconst (v := 0) dX8_isTraffic_13 (by decide) ?_
    refine lk_iret .boolean dX8_isTraffic_14 rfl rfl ?_
    rw [hQ]
    refine ⟨?_, rfl, rfl⟩
    grind
  ·
    refine lk_iload_n dX8_isTraffic_4 rfl rfl ?_
    refine lk_iconst (v := 4) dX8_isTraffic_5 (by decide) ?_
    refine lk_icmp_gt (tgt := 13) dX8_isTraffic_6 (by decide) (fun hh2 => ?_) (fun hh2 => ?_)
    ·
      refine lk_iconst (v := 0) dX8_isTraffic_13 (by decide) ?_
      refine lk_iret .boolean dX8_isTraffic_14 rfl rfl ?_
      rw [hQ]
      refine ⟨?_, rfl, rfl⟩
      grind
    ·
      refine lk_iconst (v := 1) dX8_isTraffic_9 (by decide) ?_
      refine lk_goto (tgt := 14) dX8_isTraffic_10 (by decide) ?_
      refine lk_iret .boolean dX8_isTraffic_14 rfl rfl ?_
      rw [hQ]
      refine ⟨?_, rfl, rfl⟩
      grind
