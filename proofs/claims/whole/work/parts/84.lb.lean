section LKK
variable {l : Launch} {e : Env} {X : lk_G} {p : Program} {s : State} {m : MethodId} {below : List Frame} {meth : Method} {c : Code} {b L : Nat} {xs : Nat → Int32} {cc ss pc : Nat} {S : List Value} {i : Int32} {σ : lk_N} {τ : lk_T}
theorem lk_Li2l {x : Int32} (C : lk_LC X p s m meth c b L xs cc ss) (hd : decode code pc = .ok (.i2l, 1)) (k : lk_LW l e X p s m below meth c b cc ss (pc + 1) (.long x.toInt64 :: S) i σ τ) : lk_LW l e X p s m below meth c b cc ss pc (.int x :: S) i σ τ :=
  fun H locs ls hP hD hS hl => lv_i2l C.1.1 C.1.2.1 hd rfl (k H locs ls hP hD hS hl)
theorem lk_Lshl32 {x : Int64} (C : lk_LC X p s m meth c b L xs cc ss) (h1 : decode code pc = .ok (.bipush 32, 2)) (h2 : decode code (pc + 2) = .ok (.lshl, 1)) (k : lk_LW l e X p s m below meth c b cc ss (pc + 3) (.long (x <<< ((32 : Int32).toInt64 &&& 63)) :: S) i σ τ) : lk_LW l e X p s m below meth c b cc ss pc (.long x :: S) i σ τ :=
  fun H locs ls hP hD hS hl => lv_bipush (v := 32) C.1.1 C.1.2.1 h1 (by decide) (lv_lshl C.1.1 C.1.2.1 h2 rfl (k H locs ls hP hD hS hl))
theorem lk_Lmask {x : Int64} (C : lk_LC X p s m meth c b L xs cc ss) (h1 : decode code pc = .ok (.ldc2_w 129, 3)) (h2 : decode code (pc + 3) = .ok (.land, 1)) (k : lk_LW l e X p s m below meth c b cc ss (pc + 4) (.long (x &&& 4294967295) :: S) i σ τ) : lk_LW l e X p s m below meth c b cc ss pc (.long x :: S) i σ τ :=
  fun H locs ls hP hD hS hl => lv_ldc2 (own := RL) C.1.1 C.1.2.1 C.1.2.2.2.2.1 (C.1.2.2.2.2.2.1 _ (List.mem_filter.mp kL_129).1) h1 (lv_land C.1.1 C.1.2.1 h2 (k H locs ls hP hD hS hl))
theorem lk_Llor {x y : Int64} (C : lk_LC X p s m meth c b L xs cc ss) (h1 : decode code pc = .ok (.lor, 1)) (k : lk_LW l e X p s m below meth c b cc ss (pc + 1) (.long (x ||| y) :: S) i σ τ) : lk_LW l e X p s m below meth c b cc ss pc (.long y :: .long x :: S) i σ τ :=
  fun H locs ls hP hD hS hl => lv_lor C.1.1 C.1.2.1 h1 (k H locs ls hP hD hS hl)
/-- the account's answers: alike -/
theorem lk_Lcmp0 {x : Int64} {off : Int} (C : lk_LC X p s m meth c b L xs cc ss) (h1 : decode code pc = .ok (.lcmp, 1)) (h2 : decode code (pc + 1) = .ok (.ifCond .eq off, 3)) (ht : ((pc + 1 : Nat) : Int) + off = 1130) (k : lk_LW l e X p s m below meth c b cc ss 1130 S i σ τ) : lk_LW l e X p s m below meth c b cc ss pc (.long x :: .long x :: S) i σ τ := by
  intro H locs ls hP hD hS hl
  refine W.lcmp C.1.1 C.1.2.1 h1 ?_
  refine lv_if_eq (tgt := 1130) C.1.1 C.1.2.1 h2 ht (fun _ => k H locs ls hP hD hS hl) (fun z => ?_)
  exact absurd (by simp [lg_cmp]) z
theorem lk_vint {M : lk_M} {v : lk_V} (h : lk_vty M.2.2.2 v) (hM : M.2.2.2 = some .int) : ∃ x, v = lk_vi x := by
  rw [hM] at h
  rcases v with x | x | x
  · exact ⟨x, rfl⟩
  · exact absurd h (by intro z; cases z)
  · exact absurd h (fun z => z)
theorem lk_vlong {M : lk_M} {v : lk_V} (h : lk_vty M.2.2.2 v) (hM : M.2.2.2 = some .long) : ∃ x, v = lk_vl x := by
  rw [hM] at h
  rcases v with x | x | x
  · exact absurd h (by intro z; cases z)
  · exact ⟨x, rfl⟩
  · exact absurd h (fun z => z)
end LKK

theorem lk_case0 (l : Launch) {e : Env} {X : lk_G} {p : Program} {s : State} {m : MethodId} {below : List Frame} {meth : Method} {c : Code} {b L : Nat} {xs : Nat → Int32} {cc ss : Nat} {σ : lk_N} {τ : lk_T} {k n0 : Nat} (C : lk_LC X p s m meth c b L xs cc ss) (hk : k + 5 ≤ L) (hc : n0 ≤ 1000000) (hR : lk_Rel σ τ n0) (kk : ∀ σ2 τ2, lk_Rel σ2 τ2 (n0 + 1) → lk_LW l e X p s m below meth c b cc ss 1130 [] (nI k) σ2 τ2) : lk_LW l e X p s m below meth c b cc ss 180 [] (nI k) σ τ := by
  obtain ⟨n, nf, nt, hR⟩ := hR
  refine lk_Lal1 C dL_law_180 ?_
  refine lk_Larg (j := 1) C dL_law_181 dL_law_182 dL_law_183 dL_law_184 dL_law_185 rfl (by omega) ?_
  refine lk_Lcall (M' := mX8_locks) (d := 1) (o := 0) (ci := 8) (as := [lk_vi (xs (k + 1))]) (S := []) C dL_law_186 rfl vX8_locks rfl lL_13 rfl rfl (by decide) (by decide) (pp_locks l X 0 0 σ τ n nf nt n0 hR (xs (k + 1))) (fun r σ1 τ1 hQ => ?_)
  obtain ⟨⟨v, hv, hvt⟩, hM⟩ := hQ
  obtain ⟨x, hx⟩ := lk_vint (M := mX9_locks) hvt rfl
  subst hx; subst hv
  refine lk_Lal2 C dL_law_189 ?_
  refine lk_Larg (j := 1) C dL_law_190 dL_law_191 dL_law_192 dL_law_193 dL_law_194 rfl (by omega) ?_
  refine lk_Lcall (M' := mX9_locks) (d := 1) (o := 1) (ci := 9) (as := [lk_vi (xs (k + 1))]) (S := [.int x]) C dL_law_195 rfl vX9_locks rfl lL_17 rfl rfl (Nat.le_of_ble_eq_true rfl) (by decide) hM (fun r2 σ2 τ2 hQ2 => ?_)
  obtain ⟨hr2, hR2⟩ := hQ2
  subst hr2
  exact lk_Leq C dL_law_198 (by decide) (kk σ2 τ2 hR2)
theorem lk_case1 (l : Launch) {e : Env} {X : lk_G} {p : Program} {s : State} {m : MethodId} {below : List Frame} {meth : Method} {c : Code} {b L : Nat} {xs : Nat → Int32} {cc ss : Nat} {σ : lk_N} {τ : lk_T} {k n0 : Nat} (C : lk_LC X p s m meth c b L xs cc ss) (hk : k + 5 ≤ L) (hc : n0 ≤ 1000000) (hR : lk_Rel σ τ n0) (kk : ∀ σ2 τ2, lk_Rel σ2 τ2 (n0 + 1) → lk_LW l e X p s m below meth c b cc ss 1130 [] (nI k) σ2 τ2) : lk_LW l e X p s m below meth c b cc ss 203 [] (nI k) σ τ := by
  obtain ⟨n, nf, nt, hR⟩ := hR
  refine lk_Lal1 C dL_law_203 ?_
  refine lk_Larg (j := 1) C dL_law_204 dL_law_205 dL_law_206 dL_law_207 dL_law_208 rfl (by omega) ?_
  refine lk_Larg (j := 2) C dL_law_209 dL_law_210 dL_law_211 dL_law_212 dL_law_213 rfl (by omega) ?_
  refine lk_Larg (j := 3) C dL_law_214 dL_law_215 dL_law_216 dL_law_217 dL_law_218 rfl (by omega) ?_
  refine lk_Lcall (M' := mX8_lock) (d := 2) (o := 0) (ci := 8) (as := [lk_vi (xs (k + 1)), lk_vi (xs (k + 2)), lk_vi (xs (k + 3))]) (S := []) C dL_law_219 rfl vX8_lock rfl lL_18 rfl rfl (by decide) (by decide) (pp_lock l X 0 0 σ τ n nf nt n0 hR (xs (k + 1)) (xs (k + 2)) (xs (k + 3))) (fun r σ1 τ1 hQ => ?_)
  obtain ⟨⟨v, hv, hvt⟩, hM⟩ := hQ
  obtain ⟨x, hx⟩ := lk_vint (M := mX9_lock) hvt rfl
  subst hx; subst hv
  refine lk_Lal2 C dL_law_222 ?_
  refine lk_Larg (j := 1) C dL_law_223 dL_law_224 dL_law_225 dL_law_226 dL_law_227 rfl (by omega) ?_
  refine lk_Larg (j := 2) C dL_law_228 dL_law_229 dL_law_230 dL_law_231 dL_law_232 rfl (by omega) ?_
  refine lk_Larg (j := 3) C dL_law_233 dL_law_234 dL_law_235 dL_law_236 dL_law_237 rfl (by omega) ?_
  refine lk_Lcall (M' := mX9_lock) (d := 2) (o := 1) (ci := 9) (as := [lk_vi (xs (k + 1)), lk_vi (xs (k + 2)), lk_vi (xs (k + 3))]) (S := [.int x]) C dL_law_238 rfl vX9_lock rfl lL_22 rfl rfl (Nat.le_of_ble_eq_true rfl) (by decide) hM (fun r2 σ2 τ2 hQ2 => ?_)
  obtain ⟨hr2, hR2⟩ := hQ2
  subst hr2
  exact lk_Leq C dL_law_241 (by decide) (kk σ2 τ2 hR2)
theorem lk_case2 (l : Launch) {e : Env} {X : lk_G} {p : Program} {s : State} {m : MethodId} {below : List Frame} {meth : Method} {c : Code} {b L : Nat} {xs : Nat → Int32} {cc ss : Nat} {σ : lk_N} {τ : lk_T} {k n0 : Nat} (C : lk_LC X p s m meth c b L xs cc ss) (hk : k + 5 ≤ L) (hc : n0 ≤ 1000000) (hR : lk_Rel σ τ n0) (kk : ∀ σ2 τ2, lk_Rel σ2 τ2 (n0 + 1) → lk_LW l e X p s m below meth c b cc ss 1130 [] (nI k) σ2 τ2) : lk_LW l e X p s m below meth c b cc ss 246 [] (nI k) σ τ := by
  obtain ⟨n, nf, nt, hR⟩ := hR
  refine lk_Lal1 C dL_law_246 ?_
  refine lk_Larg (j := 1) C dL_law_247 dL_law_248 dL_law_249 dL_law_250 dL_law_251 rfl (by omega) ?_
  refine lk_Larg (j := 2) C dL_law_252 dL_law_253 dL_law_254 dL_law_255 dL_law_256 rfl (by omega) ?_
  refine lk_Lcall (M' := mX8_ofLock) (d := 2) (o := 0) (ci := 8) (as := [lk_vi (xs (k + 1)), lk_vi (xs (k + 2))]) (S := []) C dL_law_257 rfl vX8_ofLock rfl lL_23 rfl rfl (by decide) (by decide) (pp_ofLock l X 0 0 σ τ n nf nt n0 hR (xs (k + 1)) (xs (k + 2))) (fun r σ1 τ1 hQ => ?_)
  obtain ⟨⟨v, hv, hvt⟩, hM⟩ := hQ
  obtain ⟨x, hx⟩ := lk_vint (M := mX9_ofLock) hvt rfl
  subst hx; subst hv
  refine lk_Lal2 C dL_law_260 ?_
  refine lk_Larg (j := 1) C dL_law_261 dL_law_262 dL_law_263 dL_law_264 dL_law_265 rfl (by omega) ?_
  refine lk_Larg (j := 2) C dL_law_266 dL_law_267 dL_law_268 dL_law_269 dL_law_270 rfl (by omega) ?_
  refine lk_Lcall (M' := mX9_ofLock) (d := 2) (o := 1) (ci := 9) (as := [lk_vi (xs (k + 1)), lk_vi (xs (k + 2))]) (S := [.int x]) C dL_law_271 rfl vX9_ofLock rfl lL_27 rfl rfl (Nat.le_of_ble_eq_true rfl) (by decide) hM (fun r2 σ2 τ2 hQ2 => ?_)
  obtain ⟨hr2, hR2⟩ := hQ2
  subst hr2
  exact lk_Leq C dL_law_274 (by decide) (kk σ2 τ2 hR2)
theorem lk_case3 (l : Launch) {e : Env} {X : lk_G} {p : Program} {s : State} {m : MethodId} {below : List Frame} {meth : Method} {c : Code} {b L : Nat} {xs : Nat → Int32} {cc ss : Nat} {σ : lk_N} {τ : lk_T} {k n0 : Nat} (C : lk_LC X p s m meth c b L xs cc ss) (hk : k + 5 ≤ L) (hc : n0 ≤ 1000000) (hR : lk_Rel σ τ n0) (kk : ∀ σ2 τ2, lk_Rel σ2 τ2 (n0 + 1) → lk_LW l e X p s m below meth c b cc ss 1130 [] (nI k) σ2 τ2) : lk_LW l e X p s m below meth c b cc ss 279 [] (nI k) σ τ := by
  obtain ⟨n, nf, nt, hR⟩ := hR
  refine lk_Lal1 C dL_law_279 ?_
  refine lk_Larg (j := 1) C dL_law_280 dL_law_281 dL_law_282 dL_law_283 dL_law_284 rfl (by omega) ?_
  refine lk_Larg (j := 2) C dL_law_285 dL_law_286 dL_law_287 dL_law_288 dL_law_289 rfl (by omega) ?_
  refine lk_Larg (j := 3) C dL_law_290 dL_law_291 dL_law_292 dL_law_293 dL_law_294 rfl (by omega) ?_
  refine lk_Lcall (M' := mX8_reach) (d := 1) (o := 0) (ci := 8) (as := [lk_vi (xs (k + 1)), lk_vi (xs (k + 2)), lk_vi (xs (k + 3))]) (S := []) C dL_law_295 rfl vX8_reach rfl lL_28 rfl rfl (by decide) (by decide) (pp_reach l X 0 0 σ τ n nf nt n0 hR (xs (k + 1)) (xs (k + 2)) (xs (k + 3))) (fun r σ1 τ1 hQ => ?_)
  obtain ⟨⟨v, hv, hvt⟩, hM⟩ := hQ
  obtain ⟨x, hx⟩ := lk_vint (M := mX9_reach) hvt rfl
  subst hx; subst hv
  refine lk_Lal2 C dL_law_298 ?_
  refine lk_Larg (j := 1) C dL_law_299 dL_law_300 dL_law_301 dL_law_302 dL_law_303 rfl (by omega) ?_
  refine lk_Larg (j := 2) C dL_law_304 dL_law_305 dL_law_306 dL_law_307 dL_law_308 rfl (by omega) ?_
  refine lk_Larg (j := 3) C dL_law_309 dL_law_310 dL_law_311 dL_law_312 dL_law_313 rfl (by omega) ?_
  refine lk_Lcall (M' := mX9_reach) (d := 2) (o := 1) (ci := 9) (as := [lk_vi (xs (k + 1)), lk_vi (xs (k + 2)), lk_vi (xs (k + 3))]) (S := [.int x]) C dL_law_314 rfl vX9_reach rfl lL_31 rfl rfl (Nat.le_of_ble_eq_true rfl) (by decide) hM (fun r2 σ2 τ2 hQ2 => ?_)
  obtain ⟨hr2, hR2⟩ := hQ2
  subst hr2
  exact lk_Leq C dL_law_317 (by decide) (kk σ2 τ2 hR2)
theorem lk_case4 (l : Launch) {e : Env} {X : lk_G} {p : Program} {s : State} {m : MethodId} {below : List Frame} {meth : Method} {c : Code} {b L : Nat} {xs : Nat → Int32} {cc ss : Nat} {σ : lk_N} {τ : lk_T} {k n0 : Nat} (C : lk_LC X p s m meth c b L xs cc ss) (hk : k + 5 ≤ L) (hc : n0 ≤ 1000000) (hR : lk_Rel σ τ n0) (kk : ∀ σ2 τ2, lk_Rel σ2 τ2 (n0 + 1) → lk_LW l e X p s m below meth c b cc ss 1130 [] (nI k) σ2 τ2) : lk_LW l e X p s m below meth c b cc ss 322 [] (nI k) σ τ := by
  obtain ⟨n, nf, nt, hR⟩ := hR
  refine lk_Lal1 C dL_law_322 ?_
  refine lk_Larg (j := 1) C dL_law_323 dL_law_324 dL_law_325 dL_law_326 dL_law_327 rfl (by omega) ?_
  refine lk_Larg (j := 2) C dL_law_328 dL_law_329 dL_law_330 dL_law_331 dL_law_332 rfl (by omega) ?_
  refine lk_Lcall (M' := mX8_ofReach) (d := 1) (o := 0) (ci := 8) (as := [lk_vi (xs (k + 1)), lk_vi (xs (k + 2))]) (S := []) C dL_law_333 rfl vX8_ofReach rfl lL_32 rfl rfl (by decide) (by decide) (pp_ofReach l X 0 0 σ τ n nf nt n0 hR (xs (k + 1)) (xs (k + 2))) (fun r σ1 τ1 hQ => ?_)
  obtain ⟨⟨v, hv, hvt⟩, hM⟩ := hQ
  obtain ⟨x, hx⟩ := lk_vint (M := mX9_ofReach) hvt rfl
  subst hx; subst hv
  refine lk_Lal2 C dL_law_336 ?_
  refine lk_Larg (j := 1) C dL_law_337 dL_law_338 dL_law_339 dL_law_340 dL_law_341 rfl (by omega) ?_
  refine lk_Larg (j := 2) C dL_law_342 dL_law_343 dL_law_344 dL_law_345 dL_law_346 rfl (by omega) ?_
  refine lk_Lcall (M' := mX9_ofReach) (d := 2) (o := 1) (ci := 9) (as := [lk_vi (xs (k + 1)), lk_vi (xs (k + 2))]) (S := [.int x]) C dL_law_347 rfl vX9_ofReach rfl lL_35 rfl rfl (Nat.le_of_ble_eq_true rfl) (by decide) hM (fun r2 σ2 τ2 hQ2 => ?_)
  obtain ⟨hr2, hR2⟩ := hQ2
  subst hr2
  exact lk_Leq C dL_law_350 (by decide) (kk σ2 τ2 hR2)
theorem lk_case5 (l : Launch) {e : Env} {X : lk_G} {p : Program} {s : State} {m : MethodId} {below : List Frame} {meth : Method} {c : Code} {b L : Nat} {xs : Nat → Int32} {cc ss : Nat} {σ : lk_N} {τ : lk_T} {k n0 : Nat} (C : lk_LC X p s m meth c b L xs cc ss) (hk : k + 5 ≤ L) (hc : n0 ≤ 1000000) (hR : lk_Rel σ τ n0) (kk : ∀ σ2 τ2, lk_Rel σ2 τ2 (n0 + 1) → lk_LW l e X p s m below meth c b cc ss 1130 [] (nI k) σ2 τ2) : lk_LW l e X p s m below meth c b cc ss 355 [] (nI k) σ τ := by
  obtain ⟨n, nf, nt, hR⟩ := hR
  refine lk_Lal1 C dL_law_355 ?_
  refine lk_Larg (j := 1) C dL_law_356 dL_law_357 dL_law_358 dL_law_359 dL_law_360 rfl (by omega) ?_
  refine lk_Lcall (M' := mX8_feeds) (d := 0) (o := 0) (ci := 8) (as := [lk_vi (xs (k + 1))]) (S := []) C dL_law_361 rfl vX8_feeds rfl lL_36 rfl rfl (by decide) (by decide) (pp_feeds l X 0 0 σ τ n nf nt n0 hR (xs (k + 1))) (fun r σ1 τ1 hQ => ?_)
  obtain ⟨⟨v, hv, hvt⟩, hM⟩ := hQ
  obtain ⟨x, hx⟩ := lk_vint (M := mX9_feeds) hvt rfl
  subst hx; subst hv
  refine lk_Lal2 C dL_law_364 ?_
  refine lk_Larg (j := 1) C dL_law_365 dL_law_366 dL_law_367 dL_law_368 dL_law_369 rfl (by omega) ?_
  refine lk_Lcall (M' := mX9_feeds) (d := 1) (o := 1) (ci := 9) (as := [lk_vi (xs (k + 1))]) (S := [.int x]) C dL_law_370 rfl vX9_feeds rfl lL_39 rfl rfl (Nat.le_of_ble_eq_true rfl) (by decide) hM (fun r2 σ2 τ2 hQ2 => ?_)
  obtain ⟨hr2, hR2⟩ := hQ2
  subst hr2
  exact lk_Leq C dL_law_373 (by decide) (kk σ2 τ2 hR2)
theorem lk_case6 (l : Launch) {e : Env} {X : lk_G} {p : Program} {s : State} {m : MethodId} {below : List Frame} {meth : Method} {c : Code} {b L : Nat} {xs : Nat → Int32} {cc ss : Nat} {σ : lk_N} {τ : lk_T} {k n0 : Nat} (C : lk_LC X p s m meth c b L xs cc ss) (hk : k + 5 ≤ L) (hc : n0 ≤ 1000000) (hR : lk_Rel σ τ n0) (kk : ∀ σ2 τ2, lk_Rel σ2 τ2 (n0 + 1) → lk_LW l e X p s m below meth c b cc ss 1130 [] (nI k) σ2 τ2) : lk_LW l e X p s m below meth c b cc ss 378 [] (nI k) σ τ := by
  obtain ⟨n, nf, nt, hR⟩ := hR
  refine lk_Lal1 C dL_law_378 ?_
  refine lk_Larg (j := 1) C dL_law_379 dL_law_380 dL_law_381 dL_law_382 dL_law_383 rfl (by omega) ?_
  refine lk_Lcall (M' := mX8_feed) (d := 1) (o := 0) (ci := 8) (as := [lk_vi (xs (k + 1))]) (S := []) C dL_law_384 rfl vX8_feed rfl lL_40 rfl rfl (by decide) (by decide) (pp_feed l X 0 0 σ τ n nf nt n0 hR (xs (k + 1))) (fun r σ1 τ1 hQ => ?_)
  obtain ⟨⟨v, hv, hvt⟩, hM⟩ := hQ
  obtain ⟨x, hx⟩ := lk_vint (M := mX9_feed) hvt rfl
  subst hx; subst hv
  refine lk_Lal2 C dL_law_387 ?_
  refine lk_Larg (j := 1) C dL_law_388 dL_law_389 dL_law_390 dL_law_391 dL_law_392 rfl (by omega) ?_
  refine lk_Lcall (M' := mX9_feed) (d := 1) (o := 1) (ci := 9) (as := [lk_vi (xs (k + 1))]) (S := [.int x]) C dL_law_393 rfl vX9_feed rfl lL_43 rfl rfl (Nat.le_of_ble_eq_true rfl) (by decide) hM (fun r2 σ2 τ2 hQ2 => ?_)
  obtain ⟨hr2, hR2⟩ := hQ2
  subst hr2
  exact lk_Leq C dL_law_396 (by decide) (kk σ2 τ2 hR2)
theorem lk_case7 (l : Launch) {e : Env} {X : lk_G} {p : Program} {s : State} {m : MethodId} {below : List Frame} {meth : Method} {c : Code} {b L : Nat} {xs : Nat → Int32} {cc ss : Nat} {σ : lk_N} {τ : lk_T} {k n0 : Nat} (C : lk_LC X p s m meth c b L xs cc ss) (hk : k + 5 ≤ L) (hc : n0 ≤ 1000000) (hR : lk_Rel σ τ n0) (kk : ∀ σ2 τ2, lk_Rel σ2 τ2 (n0 + 1) → lk_LW l e X p s m below meth c b cc ss 1130 [] (nI k) σ2 τ2) : lk_LW l e X p s m below meth c b cc ss 401 [] (nI k) σ τ := by
  obtain ⟨n, nf, nt, hR⟩ := hR
  refine lk_Lal1 C dL_law_401 ?_
  refine lk_Lcall (M' := mX8_boats) (d := 5) (o := 0) (ci := 8) (as := []) (S := []) C dL_law_402 rfl vX8_boats rfl lL_44 rfl rfl (by decide) (by decide) (pp_boats l X 0 0 σ τ n nf nt n0 hR ) (fun r σ1 τ1 hQ => ?_)
  obtain ⟨⟨v, hv, hvt⟩, hM⟩ := hQ
  obtain ⟨x, hx⟩ := lk_vint (M := mX9_boats) hvt rfl
  subst hx; subst hv
  refine lk_Lal2 C dL_law_405 ?_
  refine lk_Lcall (M' := mX9_boats) (d := 4) (o := 1) (ci := 9) (as := []) (S := [.int x]) C dL_law_406 rfl vX9_boats rfl lL_48 rfl rfl (Nat.le_of_ble_eq_true rfl) (by decide) hM (fun r2 σ2 τ2 hQ2 => ?_)
  obtain ⟨hr2, hR2⟩ := hQ2
  subst hr2
  exact lk_Leq C dL_law_409 (by decide) (kk σ2 τ2 hR2)
theorem lk_case8 (l : Launch) {e : Env} {X : lk_G} {p : Program} {s : State} {m : MethodId} {below : List Frame} {meth : Method} {c : Code} {b L : Nat} {xs : Nat → Int32} {cc ss : Nat} {σ : lk_N} {τ : lk_T} {k n0 : Nat} (C : lk_LC X p s m meth c b L xs cc ss) (hk : k + 5 ≤ L) (hc : n0 ≤ 1000000) (hR : lk_Rel σ τ n0) (kk : ∀ σ2 τ2, lk_Rel σ2 τ2 (n0 + 1) → lk_LW l e X p s m below meth c b cc ss 1130 [] (nI k) σ2 τ2) : lk_LW l e X p s m below meth c b cc ss 414 [] (nI k) σ τ := by
  obtain ⟨n, nf, nt, hR⟩ := hR
  refine lk_Lal1 C dL_law_414 ?_
  refine lk_Larg (j := 1) C dL_law_415 dL_law_416 dL_law_417 dL_law_418 dL_law_419 rfl (by omega) ?_
  refine lk_Larg (j := 2) C dL_law_420 dL_law_421 dL_law_422 dL_law_423 dL_law_424 rfl (by omega) ?_
  refine lk_Lcall (M' := mX8_boat) (d := 4) (o := 0) (ci := 8) (as := [lk_vi (xs (k + 1)), lk_vi (xs (k + 2))]) (S := []) C dL_law_425 rfl vX8_boat rfl lL_49 rfl rfl (by decide) (by decide) (pp_boat l X 0 0 σ τ n nf nt n0 hR (xs (k + 1)) (xs (k + 2))) (fun r σ1 τ1 hQ => ?_)
  obtain ⟨⟨v, hv, hvt⟩, hM⟩ := hQ
  obtain ⟨x, hx⟩ := lk_vint (M := mX9_boat) hvt rfl
  subst hx; subst hv
  refine lk_Lal2 C dL_law_428 ?_
  refine lk_Larg (j := 1) C dL_law_429 dL_law_430 dL_law_431 dL_law_432 dL_law_433 rfl (by omega) ?_
  refine lk_Larg (j := 2) C dL_law_434 dL_law_435 dL_law_436 dL_law_437 dL_law_438 rfl (by omega) ?_
  refine lk_Lcall (M' := mX9_boat) (d := 2) (o := 1) (ci := 9) (as := [lk_vi (xs (k + 1)), lk_vi (xs (k + 2))]) (S := [.int x]) C dL_law_439 rfl vX9_boat rfl lL_52 rfl rfl (Nat.le_of_ble_eq_true rfl) (by decide) hM (fun r2 σ2 τ2 hQ2 => ?_)
  obtain ⟨hr2, hR2⟩ := hQ2
  subst hr2
  exact lk_Leq C dL_law_442 (by decide) (kk σ2 τ2 hR2)
theorem lk_case9 (l : Launch) {e : Env} {X : lk_G} {p : Program} {s : State} {m : MethodId} {below : List Frame} {meth : Method} {c : Code} {b L : Nat} {xs : Nat → Int32} {cc ss : Nat} {σ : lk_N} {τ : lk_T} {k n0 : Nat} (C : lk_LC X p s m meth c b L xs cc ss) (hk : k + 5 ≤ L) (hc : n0 ≤ 1000000) (hR : lk_Rel σ τ n0) (kk : ∀ σ2 τ2, lk_Rel σ2 τ2 (n0 + 1) → lk_LW l e X p s m below meth c b cc ss 1130 [] (nI k) σ2 τ2) : lk_LW l e X p s m below meth c b cc ss 447 [] (nI k) σ τ := by
  obtain ⟨n, nf, nt, hR⟩ := hR
  refine lk_Lal1 C dL_law_447 ?_
  refine lk_Lcall (M' := mX8_find) (d := 2) (o := 0) (ci := 8) (as := []) (S := []) C dL_law_448 rfl vX8_find rfl lL_53 rfl rfl (by decide) (by decide) (pp_find l X 0 0 σ τ n nf nt n0 hR ) (fun r σ1 τ1 hQ => ?_)
  obtain ⟨⟨v, hv, hvt⟩, hM⟩ := hQ
  obtain ⟨x, hx⟩ := lk_vint (M := mX9_find) hvt rfl
  subst hx; subst hv
  refine lk_Lal2 C dL_law_451 ?_
  refine lk_Lcall (M' := mX9_find) (d := 3) (o := 1) (ci := 9) (as := []) (S := [.int x]) C dL_law_452 rfl vX9_find rfl lL_56 rfl rfl (Nat.le_of_ble_eq_true rfl) (by decide) hM (fun r2 σ2 τ2 hQ2 => ?_)
  obtain ⟨hr2, hR2⟩ := hQ2
  subst hr2
  exact lk_Leq C dL_law_455 (by decide) (kk σ2 τ2 hR2)
theorem lk_case10 (l : Launch) {e : Env} {X : lk_G} {p : Program} {s : State} {m : MethodId} {below : List Frame} {meth : Method} {c : Code} {b L : Nat} {xs : Nat → Int32} {cc ss : Nat} {σ : lk_N} {τ : lk_T} {k n0 : Nat} (C : lk_LC X p s m meth c b L xs cc ss) (hk : k + 5 ≤ L) (hc : n0 ≤ 1000000) (hR : lk_Rel σ τ n0) (kk : ∀ σ2 τ2, lk_Rel σ2 τ2 (n0 + 1) → lk_LW l e X p s m below meth c b cc ss 1130 [] (nI k) σ2 τ2) : lk_LW l e X p s m below meth c b cc ss 460 [] (nI k) σ τ := by
  obtain ⟨n, nf, nt, hR⟩ := hR
  refine lk_Lal1 C dL_law_460 ?_
  refine lk_Larg (j := 1) C dL_law_461 dL_law_462 dL_law_463 dL_law_464 dL_law_465 rfl (by omega) ?_
  refine lk_Lcall (M' := mX8_leaves) (d := 2) (o := 0) (ci := 8) (as := [lk_vi (xs (k + 1))]) (S := []) C dL_law_466 rfl vX8_leaves rfl lL_57 rfl rfl (by decide) (by decide) (pp_leaves l X 0 0 σ τ n nf nt n0 hR (xs (k + 1))) (fun r σ1 τ1 hQ => ?_)
  obtain ⟨⟨v, hv, hvt⟩, hM⟩ := hQ
  obtain ⟨x, hx⟩ := lk_vint (M := mX9_leaves) hvt rfl
  subst hx; subst hv
  refine lk_Lal2 C dL_law_469 ?_
  refine lk_Larg (j := 1) C dL_law_470 dL_law_471 dL_law_472 dL_law_473 dL_law_474 rfl (by omega) ?_
  refine lk_Lcall (M' := mX9_leaves) (d := 2) (o := 1) (ci := 9) (as := [lk_vi (xs (k + 1))]) (S := [.int x]) C dL_law_475 rfl vX9_leaves rfl lL_60 rfl rfl (Nat.le_of_ble_eq_true rfl) (by decide) hM (fun r2 σ2 τ2 hQ2 => ?_)
  obtain ⟨hr2, hR2⟩ := hQ2
  subst hr2
  exact lk_Leq C dL_law_478 (by decide) (kk σ2 τ2 hR2)
theorem lk_case11 (l : Launch) {e : Env} {X : lk_G} {p : Program} {s : State} {m : MethodId} {below : List Frame} {meth : Method} {c : Code} {b L : Nat} {xs : Nat → Int32} {cc ss : Nat} {σ : lk_N} {τ : lk_T} {k n0 : Nat} (C : lk_LC X p s m meth c b L xs cc ss) (hk : k + 5 ≤ L) (hc : n0 ≤ 1000000) (hR : lk_Rel σ τ n0) (kk : ∀ σ2 τ2, lk_Rel σ2 τ2 (n0 + 1) → lk_LW l e X p s m below meth c b cc ss 1130 [] (nI k) σ2 τ2) : lk_LW l e X p s m below meth c b cc ss 483 [] (nI k) σ τ := by
  obtain ⟨n, nf, nt, hR⟩ := hR
  refine lk_Lal1 C dL_law_483 ?_
  refine lk_Larg (j := 1) C dL_law_484 dL_law_485 dL_law_486 dL_law_487 dL_law_488 rfl (by omega) ?_
  refine lk_Lcall (M' := mX8_about) (d := 1) (o := 0) (ci := 8) (as := [lk_vi (xs (k + 1))]) (S := []) C dL_law_489 rfl vX8_about rfl lL_61 rfl rfl (by decide) (by decide) (pp_about l X 0 0 σ τ n nf nt n0 hR (xs (k + 1))) (fun r σ1 τ1 hQ => ?_)
  obtain ⟨⟨v, hv, hvt⟩, hM⟩ := hQ
  obtain ⟨x, hx⟩ := lk_vint (M := mX9_about) hvt rfl
  subst hx; subst hv
  refine lk_Lal2 C dL_law_492 ?_
  refine lk_Larg (j := 1) C dL_law_493 dL_law_494 dL_law_495 dL_law_496 dL_law_497 rfl (by omega) ?_
  refine lk_Lcall (M' := mX9_about) (d := 2) (o := 1) (ci := 9) (as := [lk_vi (xs (k + 1))]) (S := [.int x]) C dL_law_498 rfl vX9_about rfl lL_64 rfl rfl (Nat.le_of_ble_eq_true rfl) (by decide) hM (fun r2 σ2 τ2 hQ2 => ?_)
  obtain ⟨hr2, hR2⟩ := hQ2
  subst hr2
  exact lk_Leq C dL_law_501 (by decide) (kk σ2 τ2 hR2)
theorem lk_case12 (l : Launch) {e : Env} {X : lk_G} {p : Program} {s : State} {m : MethodId} {below : List Frame} {meth : Method} {c : Code} {b L : Nat} {xs : Nat → Int32} {cc ss : Nat} {σ : lk_N} {τ : lk_T} {k n0 : Nat} (C : lk_LC X p s m meth c b L xs cc ss) (hk : k + 5 ≤ L) (hc : n0 ≤ 1000000) (hR : lk_Rel σ τ n0) (kk : ∀ σ2 τ2, lk_Rel σ2 τ2 (n0 + 1) → lk_LW l e X p s m below meth c b cc ss 1130 [] (nI k) σ2 τ2) : lk_LW l e X p s m below meth c b cc ss 506 [] (nI k) σ τ := by
  obtain ⟨n, nf, nt, hR⟩ := hR
  refine lk_Lal1 C dL_law_506 ?_
  refine lk_Larg (j := 1) C dL_law_507 dL_law_508 dL_law_509 dL_law_510 dL_law_511 rfl (by omega) ?_
  refine lk_Lcall (M' := mX8_pass) (d := 3) (o := 0) (ci := 8) (as := [lk_vi (xs (k + 1))]) (S := []) C dL_law_512 rfl vX8_pass rfl lL_65 rfl rfl (by decide) (by decide) (pp_pass l X 0 0 σ τ n nf nt n0 hR hc (xs (k + 1))) (fun r σ1 τ1 hQ => ?_)
  obtain ⟨⟨v, hv, hvt⟩, hM⟩ := hQ
  obtain ⟨x, hx⟩ := lk_vint (M := mX9_pass) hvt rfl
  subst hx; subst hv
  refine lk_Lal2 C dL_law_515 ?_
  refine lk_Larg (j := 1) C dL_law_516 dL_law_517 dL_law_518 dL_law_519 dL_law_520 rfl (by omega) ?_
  refine lk_Lcall (M' := mX9_pass) (d := 5) (o := 1) (ci := 9) (as := [lk_vi (xs (k + 1))]) (S := [.int x]) C dL_law_521 rfl vX9_pass rfl lL_68 rfl rfl (Nat.le_of_ble_eq_true rfl) (by decide) hM (fun r2 σ2 τ2 hQ2 => ?_)
  obtain ⟨hr2, hR2⟩ := hQ2
  subst hr2
  exact lk_Leq C dL_law_524 (by decide) (kk σ2 τ2 hR2)
theorem lk_case13 (l : Launch) {e : Env} {X : lk_G} {p : Program} {s : State} {m : MethodId} {below : List Frame} {meth : Method} {c : Code} {b L : Nat} {xs : Nat → Int32} {cc ss : Nat} {σ : lk_N} {τ : lk_T} {k n0 : Nat} (C : lk_LC X p s m meth c b L xs cc ss) (hk : k + 5 ≤ L) (hc : n0 ≤ 1000000) (hR : lk_Rel σ τ n0) (kk : ∀ σ2 τ2, lk_Rel σ2 τ2 (n0 + 1) → lk_LW l e X p s m below meth c b cc ss 1130 [] (nI k) σ2 τ2) : lk_LW l e X p s m below meth c b cc ss 529 [] (nI k) σ τ := by
  obtain ⟨n, nf, nt, hR⟩ := hR
  refine lk_Lal1 C dL_law_529 ?_
  refine lk_Larg (j := 1) C dL_law_530 dL_law_531 dL_law_532 dL_law_533 dL_law_534 rfl (by omega) ?_
  refine lk_Lcall (M' := mX8_through) (d := 4) (o := 0) (ci := 8) (as := [lk_vi (xs (k + 1))]) (S := []) C dL_law_535 rfl vX8_through rfl lL_69 rfl rfl (by decide) (by decide) (pp_through l X 0 0 σ τ n nf nt n0 hR hc (xs (k + 1))) (fun r σ1 τ1 hQ => ?_)
  obtain ⟨⟨v, hv, hvt⟩, hM⟩ := hQ
  obtain ⟨x, hx⟩ := lk_vint (M := mX9_through) hvt rfl
  subst hx; subst hv
  refine lk_Lal2 C dL_law_538 ?_
  refine lk_Larg (j := 1) C dL_law_539 dL_law_540 dL_law_541 dL_law_542 dL_law_543 rfl (by omega) ?_
  refine lk_Lcall (M' := mX9_through) (d := 5) (o := 1) (ci := 9) (as := [lk_vi (xs (k + 1))]) (S := [.int x]) C dL_law_544 rfl vX9_through rfl lL_72 rfl rfl (Nat.le_of_ble_eq_true rfl) (by decide) hM (fun r2 σ2 τ2 hQ2 => ?_)
  obtain ⟨hr2, hR2⟩ := hQ2
  subst hr2
  exact lk_Leq C dL_law_547 (by decide) (kk σ2 τ2 hR2)
theorem lk_case14 (l : Launch) {e : Env} {X : lk_G} {p : Program} {s : State} {m : MethodId} {below : List Frame} {meth : Method} {c : Code} {b L : Nat} {xs : Nat → Int32} {cc ss : Nat} {σ : lk_N} {τ : lk_T} {k n0 : Nat} (C : lk_LC X p s m meth c b L xs cc ss) (hk : k + 5 ≤ L) (hc : n0 ≤ 1000000) (hR : lk_Rel σ τ n0) (kk : ∀ σ2 τ2, lk_Rel σ2 τ2 (n0 + 1) → lk_LW l e X p s m below meth c b cc ss 1130 [] (nI k) σ2 τ2) : lk_LW l e X p s m below meth c b cc ss 552 [] (nI k) σ τ := by
  obtain ⟨n, nf, nt, hR⟩ := hR
  refine lk_Lal1 C dL_law_552 ?_
  refine lk_Larg (j := 1) C dL_law_553 dL_law_554 dL_law_555 dL_law_556 dL_law_557 rfl (by omega) ?_
  refine lk_Lcall (M' := mX8_costs) (d := 4) (o := 0) (ci := 8) (as := [lk_vi (xs (k + 1))]) (S := []) C dL_law_558 rfl vX8_costs rfl lL_73 rfl rfl (by decide) (by decide) (pp_costs l X 0 0 σ τ n nf nt n0 hR (xs (k + 1))) (fun r σ1 τ1 hQ => ?_)
  obtain ⟨⟨v, hv, hvt⟩, hM⟩ := hQ
  obtain ⟨x, hx⟩ := lk_vint (M := mX9_costs) hvt rfl
  subst hx; subst hv
  refine lk_Lal2 C dL_law_561 ?_
  refine lk_Larg (j := 1) C dL_law_562 dL_law_563 dL_law_564 dL_law_565 dL_law_566 rfl (by omega) ?_
  refine lk_Lcall (M' := mX9_costs) (d := 5) (o := 1) (ci := 9) (as := [lk_vi (xs (k + 1))]) (S := [.int x]) C dL_law_567 rfl vX9_costs rfl lL_76 rfl rfl (Nat.le_of_ble_eq_true rfl) (by decide) hM (fun r2 σ2 τ2 hQ2 => ?_)
  obtain ⟨hr2, hR2⟩ := hQ2
  subst hr2
  exact lk_Leq C dL_law_570 (by decide) (kk σ2 τ2 hR2)
theorem lk_case15 (l : Launch) {e : Env} {X : lk_G} {p : Program} {s : State} {m : MethodId} {below : List Frame} {meth : Method} {c : Code} {b L : Nat} {xs : Nat → Int32} {cc ss : Nat} {σ : lk_N} {τ : lk_T} {k n0 : Nat} (C : lk_LC X p s m meth c b L xs cc ss) (hk : k + 5 ≤ L) (hc : n0 ≤ 1000000) (hR : lk_Rel σ τ n0) (kk : ∀ σ2 τ2, lk_Rel σ2 τ2 (n0 + 1) → lk_LW l e X p s m below meth c b cc ss 1130 [] (nI k) σ2 τ2) : lk_LW l e X p s m below meth c b cc ss 575 [] (nI k) σ τ := by
  obtain ⟨n, nf, nt, hR⟩ := hR
  refine lk_Lal1 C dL_law_575 ?_
  refine lk_Larg (j := 1) C dL_law_576 dL_law_577 dL_law_578 dL_law_579 dL_law_580 rfl (by omega) ?_
  refine lk_Lcall (M' := mX8_why) (d := 1) (o := 0) (ci := 8) (as := [lk_vi (xs (k + 1))]) (S := []) C dL_law_581 rfl vX8_why rfl lL_77 rfl rfl (by decide) (by decide) (pp_why l X 0 0 σ τ n nf nt n0 hR (xs (k + 1))) (fun r σ1 τ1 hQ => ?_)
  obtain ⟨⟨v, hv, hvt⟩, hM⟩ := hQ
  obtain ⟨x, hx⟩ := lk_vint (M := mX9_why) hvt rfl
  subst hx; subst hv
  refine lk_Lal2 C dL_law_584 ?_
  refine lk_Larg (j := 1) C dL_law_585 dL_law_586 dL_law_587 dL_law_588 dL_law_589 rfl (by omega) ?_
  refine lk_Lcall (M' := mX9_why) (d := 1) (o := 1) (ci := 9) (as := [lk_vi (xs (k + 1))]) (S := [.int x]) C dL_law_590 rfl vX9_why rfl lL_80 rfl rfl (Nat.le_of_ble_eq_true rfl) (by decide) hM (fun r2 σ2 τ2 hQ2 => ?_)
  obtain ⟨hr2, hR2⟩ := hQ2
  subst hr2
  exact lk_Leq C dL_law_593 (by decide) (kk σ2 τ2 hR2)
theorem lk_case16 (l : Launch) {e : Env} {X : lk_G} {p : Program} {s : State} {m : MethodId} {below : List Frame} {meth : Method} {c : Code} {b L : Nat} {xs : Nat → Int32} {cc ss : Nat} {σ : lk_N} {τ : lk_T} {k n0 : Nat} (C : lk_LC X p s m meth c b L xs cc ss) (hk : k + 5 ≤ L) (hc : n0 ≤ 1000000) (hR : lk_Rel σ τ n0) (kk : ∀ σ2 τ2, lk_Rel σ2 τ2 (n0 + 1) → lk_LW l e X p s m below meth c b cc ss 1130 [] (nI k) σ2 τ2) : lk_LW l e X p s m below meth c b cc ss 598 [] (nI k) σ τ := by
  obtain ⟨n, nf, nt, hR⟩ := hR
  refine lk_Lal1 C dL_law_598 ?_
  refine lk_Larg (j := 1) C dL_law_599 dL_law_600 dL_law_601 dL_law_602 dL_law_603 rfl (by omega) ?_
  refine lk_Larg (j := 2) C dL_law_604 dL_law_605 dL_law_606 dL_law_607 dL_law_608 rfl (by omega) ?_
  refine lk_Lcall (M' := mX8_queue) (d := 5) (o := 0) (ci := 8) (as := [lk_vi (xs (k + 1)), lk_vi (xs (k + 2))]) (S := []) C dL_law_609 rfl vX8_queue rfl lL_81 rfl rfl (by decide) (by decide) (pp_queue l X 0 0 σ τ n nf nt n0 hR (xs (k + 1)) (xs (k + 2))) (fun r σ1 τ1 hQ => ?_)
  obtain ⟨⟨v, hv, hvt⟩, hM⟩ := hQ
  obtain ⟨x, hx⟩ := lk_vint (M := mX9_queue) hvt rfl
  subst hx; subst hv
  refine lk_Lal2 C dL_law_612 ?_
  refine lk_Larg (j := 1) C dL_law_613 dL_law_614 dL_law_615 dL_law_616 dL_law_617 rfl (by omega) ?_
  refine lk_Larg (j := 2) C dL_law_618 dL_law_619 dL_law_620 dL_law_621 dL_law_622 rfl (by omega) ?_
  refine lk_Lcall (M' := mX9_queue) (d := 2) (o := 1) (ci := 9) (as := [lk_vi (xs (k + 1)), lk_vi (xs (k + 2))]) (S := [.int x]) C dL_law_623 rfl vX9_queue rfl lL_84 rfl rfl (Nat.le_of_ble_eq_true rfl) (by decide) hM (fun r2 σ2 τ2 hQ2 => ?_)
  obtain ⟨hr2, hR2⟩ := hQ2
  subst hr2
  exact lk_Leq C dL_law_626 (by decide) (kk σ2 τ2 hR2)
theorem lk_case17 (l : Launch) {e : Env} {X : lk_G} {p : Program} {s : State} {m : MethodId} {below : List Frame} {meth : Method} {c : Code} {b L : Nat} {xs : Nat → Int32} {cc ss : Nat} {σ : lk_N} {τ : lk_T} {k n0 : Nat} (C : lk_LC X p s m meth c b L xs cc ss) (hk : k + 5 ≤ L) (hc : n0 ≤ 1000000) (hR : lk_Rel σ τ n0) (kk : ∀ σ2 τ2, lk_Rel σ2 τ2 (n0 + 1) → lk_LW l e X p s m below meth c b cc ss 1130 [] (nI k) σ2 τ2) : lk_LW l e X p s m below meth c b cc ss 631 [] (nI k) σ τ := by
  obtain ⟨n, nf, nt, hR⟩ := hR
  refine lk_Lal1 C dL_law_631 ?_
  refine lk_Larg (j := 1) C dL_law_632 dL_law_633 dL_law_634 dL_law_635 dL_law_636 rfl (by omega) ?_
  refine lk_Lcall (M' := mX8_orders) (d := 6) (o := 0) (ci := 8) (as := [lk_vi (xs (k + 1))]) (S := []) C dL_law_637 rfl vX8_orders rfl lL_85 rfl rfl (by decide) (by decide) (pp_orders l X 0 0 σ τ n nf nt n0 hR (xs (k + 1))) (fun r σ1 τ1 hQ => ?_)
  obtain ⟨⟨v, hv, hvt⟩, hM⟩ := hQ
  obtain ⟨x, hx⟩ := lk_vint (M := mX9_orders) hvt rfl
  subst hx; subst hv
  refine lk_Lal2 C dL_law_640 ?_
  refine lk_Larg (j := 1) C dL_law_641 dL_law_642 dL_law_643 dL_law_644 dL_law_645 rfl (by omega) ?_
  refine lk_Lcall (M' := mX9_orders) (d := 17) (o := 1) (ci := 9) (as := [lk_vi (xs (k + 1))]) (S := [.int x]) C dL_law_646 rfl vX9_orders rfl lL_88 rfl rfl (Nat.le_of_ble_eq_true rfl) (by decide) hM (fun r2 σ2 τ2 hQ2 => ?_)
  obtain ⟨hr2, hR2⟩ := hQ2
  subst hr2
  exact lk_Leq C dL_law_649 (by decide) (kk σ2 τ2 hR2)
theorem lk_case18 (l : Launch) {e : Env} {X : lk_G} {p : Program} {s : State} {m : MethodId} {below : List Frame} {meth : Method} {c : Code} {b L : Nat} {xs : Nat → Int32} {cc ss : Nat} {σ : lk_N} {τ : lk_T} {k n0 : Nat} (C : lk_LC X p s m meth c b L xs cc ss) (hk : k + 5 ≤ L) (hc : n0 ≤ 1000000) (hR : lk_Rel σ τ n0) (kk : ∀ σ2 τ2, lk_Rel σ2 τ2 (n0 + 1) → lk_LW l e X p s m below meth c b cc ss 1130 [] (nI k) σ2 τ2) : lk_LW l e X p s m below meth c b cc ss 654 [] (nI k) σ τ := by
  obtain ⟨n, nf, nt, hR⟩ := hR
  refine lk_Lal1 C dL_law_654 ?_
  refine lk_Larg (j := 1) C dL_law_655 dL_law_656 dL_law_657 dL_law_658 dL_law_659 rfl (by omega) ?_
  refine lk_Larg (j := 2) C dL_law_660 dL_law_661 dL_law_662 dL_law_663 dL_law_664 rfl (by omega) ?_
  refine lk_Lcall (M' := mX8_best) (d := 6) (o := 0) (ci := 8) (as := [lk_vi (xs (k + 1)), lk_vi (xs (k + 2))]) (S := []) C dL_law_665 rfl vX8_best rfl lL_89 rfl rfl (by decide) (by decide) (pp_best l X 0 0 σ τ n nf nt n0 hR (xs (k + 1)) (xs (k + 2))) (fun r σ1 τ1 hQ => ?_)
  obtain ⟨⟨v, hv, hvt⟩, hM⟩ := hQ
  obtain ⟨x, hx⟩ := lk_vint (M := mX9_best) hvt rfl
  subst hx; subst hv
  refine lk_Lal2 C dL_law_668 ?_
  refine lk_Larg (j := 1) C dL_law_669 dL_law_670 dL_law_671 dL_law_672 dL_law_673 rfl (by omega) ?_
  refine lk_Larg (j := 2) C dL_law_674 dL_law_675 dL_law_676 dL_law_677 dL_law_678 rfl (by omega) ?_
  refine lk_Lcall (M' := mX9_best) (d := 17) (o := 1) (ci := 9) (as := [lk_vi (xs (k + 1)), lk_vi (xs (k + 2))]) (S := [.int x]) C dL_law_679 rfl vX9_best rfl lL_92 rfl rfl (Nat.le_of_ble_eq_true rfl) (by decide) hM (fun r2 σ2 τ2 hQ2 => ?_)
  obtain ⟨hr2, hR2⟩ := hQ2
  subst hr2
  exact lk_Leq C dL_law_682 (by decide) (kk σ2 τ2 hR2)
theorem lk_case19 (l : Launch) {e : Env} {X : lk_G} {p : Program} {s : State} {m : MethodId} {below : List Frame} {meth : Method} {c : Code} {b L : Nat} {xs : Nat → Int32} {cc ss : Nat} {σ : lk_N} {τ : lk_T} {k n0 : Nat} (C : lk_LC X p s m meth c b L xs cc ss) (hk : k + 5 ≤ L) (hc : n0 ≤ 1000000) (hR : lk_Rel σ τ n0) (kk : ∀ σ2 τ2, lk_Rel σ2 τ2 (n0 + 1) → lk_LW l e X p s m below meth c b cc ss 1130 [] (nI k) σ2 τ2) : lk_LW l e X p s m below meth c b cc ss 687 [] (nI k) σ τ := by
  obtain ⟨n, nf, nt, hR⟩ := hR
  refine lk_Lal1 C dL_law_687 ?_
  refine lk_Larg (j := 1) C dL_law_688 dL_law_689 dL_law_690 dL_law_691 dL_law_692 rfl (by omega) ?_
  refine lk_Larg (j := 2) C dL_law_693 dL_law_694 dL_law_695 dL_law_696 dL_law_697 rfl (by omega) ?_
  refine lk_Larg (j := 3) C dL_law_698 dL_law_699 dL_law_700 dL_law_701 dL_law_702 rfl (by omega) ?_
  refine lk_Lcall (M' := mX8_ruled) (d := 6) (o := 0) (ci := 8) (as := [lk_vi (xs (k + 1)), lk_vi (xs (k + 2)), lk_vi (xs (k + 3))]) (S := []) C dL_law_703 rfl vX8_ruled rfl lL_93 rfl rfl (by decide) (by decide) (pp_ruled l X 0 0 σ τ n nf nt n0 hR (xs (k + 1)) (xs (k + 2)) (xs (k + 3))) (fun r σ1 τ1 hQ => ?_)
  obtain ⟨⟨v, hv, hvt⟩, hM⟩ := hQ
  obtain ⟨x, hx⟩ := lk_vint (M := mX9_ruled) hvt rfl
  subst hx; subst hv
  refine lk_Lal2 C dL_law_706 ?_
  refine lk_Larg (j := 1) C dL_law_707 dL_law_708 dL_law_709 dL_law_710 dL_law_711 rfl (by omega) ?_
  refine lk_Larg (j := 2) C dL_law_712 dL_law_713 dL_law_714 dL_law_715 dL_law_716 rfl (by omega) ?_
  refine lk_Larg (j := 3) C dL_law_717 dL_law_718 dL_law_719 dL_law_720 dL_law_721 rfl (by omega) ?_
  refine lk_Lcall (M' := mX9_ruled) (d := 6) (o := 1) (ci := 9) (as := [lk_vi (xs (k + 1)), lk_vi (xs (k + 2)), lk_vi (xs (k + 3))]) (S := [.int x]) C dL_law_722 rfl vX9_ruled rfl lL_96 rfl rfl (Nat.le_of_ble_eq_true rfl) (by decide) hM (fun r2 σ2 τ2 hQ2 => ?_)
  obtain ⟨hr2, hR2⟩ := hQ2
  subst hr2
  exact lk_Leq C dL_law_725 (by decide) (kk σ2 τ2 hR2)
theorem lk_case20 (l : Launch) {e : Env} {X : lk_G} {p : Program} {s : State} {m : MethodId} {below : List Frame} {meth : Method} {c : Code} {b L : Nat} {xs : Nat → Int32} {cc ss : Nat} {σ : lk_N} {τ : lk_T} {k n0 : Nat} (C : lk_LC X p s m meth c b L xs cc ss) (hk : k + 5 ≤ L) (hc : n0 ≤ 1000000) (hR : lk_Rel σ τ n0) (kk : ∀ σ2 τ2, lk_Rel σ2 τ2 (n0 + 1) → lk_LW l e X p s m below meth c b cc ss 1130 [] (nI k) σ2 τ2) : lk_LW l e X p s m below meth c b cc ss 730 [] (nI k) σ τ := by
  obtain ⟨n, nf, nt, hR⟩ := hR
  refine lk_Lal1 C dL_law_730 ?_
  refine lk_Larg (j := 1) C dL_law_731 dL_law_732 dL_law_733 dL_law_734 dL_law_735 rfl (by omega) ?_
  refine lk_Larg (j := 2) C dL_law_736 dL_law_737 dL_law_738 dL_law_739 dL_law_740 rfl (by omega) ?_
  refine lk_Lcall (M' := mX8_run) (d := 5) (o := 0) (ci := 8) (as := [lk_vi (xs (k + 1)), lk_vi (xs (k + 2))]) (S := []) C dL_law_741 rfl vX8_run rfl lL_97 rfl rfl (by decide) (by decide) (pp_run l X 0 0 σ τ n nf nt n0 hR hc (xs (k + 1)) (xs (k + 2))) (fun r σ1 τ1 hQ => ?_)
  obtain ⟨⟨v, hv, hvt⟩, hM⟩ := hQ
  obtain ⟨x, hx⟩ := lk_vint (M := mX9_run) hvt rfl
  subst hx; subst hv
  refine lk_Lal2 C dL_law_744 ?_
  refine lk_Larg (j := 1) C dL_law_745 dL_law_746 dL_law_747 dL_law_748 dL_law_749 rfl (by omega) ?_
  refine lk_Larg (j := 2) C dL_law_750 dL_law_751 dL_law_752 dL_law_753 dL_law_754 rfl (by omega) ?_
  refine lk_Lcall (M' := mX9_run) (d := 6) (o := 1) (ci := 9) (as := [lk_vi (xs (k + 1)), lk_vi (xs (k + 2))]) (S := [.int x]) C dL_law_755 rfl vX9_run rfl lL_100 rfl rfl (Nat.le_of_ble_eq_true rfl) (by decide) hM (fun r2 σ2 τ2 hQ2 => ?_)
  obtain ⟨hr2, hR2⟩ := hQ2
  subst hr2
  exact lk_Leq C dL_law_758 (by decide) (kk σ2 τ2 hR2)
theorem lk_case21 (l : Launch) {e : Env} {X : lk_G} {p : Program} {s : State} {m : MethodId} {below : List Frame} {meth : Method} {c : Code} {b L : Nat} {xs : Nat → Int32} {cc ss : Nat} {σ : lk_N} {τ : lk_T} {k n0 : Nat} (C : lk_LC X p s m meth c b L xs cc ss) (hk : k + 5 ≤ L) (hc : n0 ≤ 1000000) (hR : lk_Rel σ τ n0) (kk : ∀ σ2 τ2, lk_Rel σ2 τ2 (n0 + 1) → lk_LW l e X p s m below meth c b cc ss 1130 [] (nI k) σ2 τ2) : lk_LW l e X p s m below meth c b cc ss 763 [] (nI k) σ τ := by
  obtain ⟨n, nf, nt, hR⟩ := hR
  refine lk_Lal1 C dL_law_763 ?_
  refine lk_Larg (j := 1) C dL_law_764 dL_law_765 dL_law_766 dL_law_767 dL_law_768 rfl (by omega) ?_
  refine lk_Lcall (M' := mX8_keeper) (d := 6) (o := 0) (ci := 8) (as := [lk_vi (xs (k + 1))]) (S := []) C dL_law_769 rfl vX8_keeper rfl lL_101 rfl rfl (by decide) (by decide) (pp_keeper l X 0 0 σ τ n nf nt n0 hR (xs (k + 1))) (fun r σ1 τ1 hQ => ?_)
  obtain ⟨⟨v, hv, hvt⟩, hM⟩ := hQ
  obtain ⟨x, hx⟩ := lk_vint (M := mX9_keeper) hvt rfl
  subst hx; subst hv
  refine lk_Lal2 C dL_law_772 ?_
  refine lk_Larg (j := 1) C dL_law_773 dL_law_774 dL_law_775 dL_law_776 dL_law_777 rfl (by omega) ?_
  refine lk_Lcall (M' := mX9_keeper) (d := 6) (o := 1) (ci := 9) (as := [lk_vi (xs (k + 1))]) (S := [.int x]) C dL_law_778 rfl vX9_keeper rfl lL_104 rfl rfl (Nat.le_of_ble_eq_true rfl) (by decide) hM (fun r2 σ2 τ2 hQ2 => ?_)
  obtain ⟨hr2, hR2⟩ := hQ2
  subst hr2
  exact lk_Leq C dL_law_781 (by decide) (kk σ2 τ2 hR2)
theorem lk_case22 (l : Launch) {e : Env} {X : lk_G} {p : Program} {s : State} {m : MethodId} {below : List Frame} {meth : Method} {c : Code} {b L : Nat} {xs : Nat → Int32} {cc ss : Nat} {σ : lk_N} {τ : lk_T} {k n0 : Nat} (C : lk_LC X p s m meth c b L xs cc ss) (hk : k + 5 ≤ L) (hc : n0 ≤ 1000000) (hR : lk_Rel σ τ n0) (kk : ∀ σ2 τ2, lk_Rel σ2 τ2 (n0 + 1) → lk_LW l e X p s m below meth c b cc ss 1130 [] (nI k) σ2 τ2) : lk_LW l e X p s m below meth c b cc ss 786 [] (nI k) σ τ := by
  obtain ⟨n, nf, nt, hR⟩ := hR
  refine lk_Lal1 C dL_law_786 ?_
  refine lk_Larg (j := 1) C dL_law_787 dL_law_788 dL_law_789 dL_law_790 dL_law_791 rfl (by omega) ?_
  refine lk_Larg (j := 2) C dL_law_792 dL_law_793 dL_law_794 dL_law_795 dL_law_796 rfl (by omega) ?_
  refine lk_Lcall (M' := mX8_day) (d := 5) (o := 0) (ci := 8) (as := [lk_vi (xs (k + 1)), lk_vi (xs (k + 2))]) (S := []) C dL_law_797 rfl vX8_day rfl lL_105 rfl rfl (by decide) (by decide) (pp_day l X 0 0 σ τ n nf nt n0 hR hc (xs (k + 1)) (xs (k + 2))) (fun r σ1 τ1 hQ => ?_)
  obtain ⟨⟨v, hv, hvt⟩, hM⟩ := hQ
  obtain ⟨x, hx⟩ := lk_vint (M := mX9_day) hvt rfl
  subst hx; subst hv
  refine lk_Lal2 C dL_law_800 ?_
  refine lk_Larg (j := 1) C dL_law_801 dL_law_802 dL_law_803 dL_law_804 dL_law_805 rfl (by omega) ?_
  refine lk_Larg (j := 2) C dL_law_806 dL_law_807 dL_law_808 dL_law_809 dL_law_810 rfl (by omega) ?_
  refine lk_Lcall (M' := mX9_day) (d := 6) (o := 1) (ci := 9) (as := [lk_vi (xs (k + 1)), lk_vi (xs (k + 2))]) (S := [.int x]) C dL_law_811 rfl vX9_day rfl lL_108 rfl rfl (Nat.le_of_ble_eq_true rfl) (by decide) hM (fun r2 σ2 τ2 hQ2 => ?_)
  obtain ⟨hr2, hR2⟩ := hQ2
  subst hr2
  exact lk_Leq C dL_law_814 (by decide) (kk σ2 τ2 hR2)
theorem lk_case23 (l : Launch) {e : Env} {X : lk_G} {p : Program} {s : State} {m : MethodId} {below : List Frame} {meth : Method} {c : Code} {b L : Nat} {xs : Nat → Int32} {cc ss : Nat} {σ : lk_N} {τ : lk_T} {k n0 : Nat} (C : lk_LC X p s m meth c b L xs cc ss) (hk : k + 5 ≤ L) (hc : n0 ≤ 1000000) (hR : lk_Rel σ τ n0) (kk : ∀ σ2 τ2, lk_Rel σ2 τ2 (n0 + 1) → lk_LW l e X p s m below meth c b cc ss 1130 [] (nI k) σ2 τ2) : lk_LW l e X p s m below meth c b cc ss 819 [] (nI k) σ τ := by
  obtain ⟨n, nf, nt, hR⟩ := hR
  refine lk_Lal1 C dL_law_819 ?_
  refine lk_Larg (j := 1) C dL_law_820 dL_law_821 dL_law_822 dL_law_823 dL_law_824 rfl (by omega) ?_
  refine lk_Larg (j := 2) C dL_law_825 dL_law_826 dL_law_827 dL_law_828 dL_law_829 rfl (by omega) ?_
  refine lk_Larg (j := 3) C dL_law_830 dL_law_831 dL_law_832 dL_law_833 dL_law_834 rfl (by omega) ?_
  refine lk_Lcall (M' := mX8_dry) (d := 5) (o := 0) (ci := 8) (as := [lk_vi (xs (k + 1)), lk_vi (xs (k + 2)), lk_vi (xs (k + 3))]) (S := []) C dL_law_835 rfl vX8_dry rfl lL_109 rfl rfl (by decide) (by decide) (pp_dry l X 0 0 σ τ n nf nt n0 hR (xs (k + 1)) (xs (k + 2)) (xs (k + 3))) (fun r σ1 τ1 hQ => ?_)
  obtain ⟨⟨v, hv, hvt⟩, hM⟩ := hQ
  obtain ⟨x, hx⟩ := lk_vint (M := mX9_dry) hvt rfl
  subst hx; subst hv
  refine lk_Lal2 C dL_law_838 ?_
  refine lk_Larg (j := 1) C dL_law_839 dL_law_840 dL_law_841 dL_law_842 dL_law_843 rfl (by omega) ?_
  refine lk_Larg (j := 2) C dL_law_844 dL_law_845 dL_law_846 dL_law_847 dL_law_848 rfl (by omega) ?_
  refine lk_Larg (j := 3) C dL_law_849 dL_law_850 dL_law_851 dL_law_852 dL_law_853 rfl (by omega) ?_
  refine lk_Lcall (M' := mX9_dry) (d := 6) (o := 1) (ci := 9) (as := [lk_vi (xs (k + 1)), lk_vi (xs (k + 2)), lk_vi (xs (k + 3))]) (S := [.int x]) C dL_law_854 rfl vX9_dry rfl lL_112 rfl rfl (Nat.le_of_ble_eq_true rfl) (by decide) hM (fun r2 σ2 τ2 hQ2 => ?_)
  obtain ⟨hr2, hR2⟩ := hQ2
  subst hr2
  exact lk_Leq C dL_law_857 (by decide) (kk σ2 τ2 hR2)
theorem lk_case24 (l : Launch) {e : Env} {X : lk_G} {p : Program} {s : State} {m : MethodId} {below : List Frame} {meth : Method} {c : Code} {b L : Nat} {xs : Nat → Int32} {cc ss : Nat} {σ : lk_N} {τ : lk_T} {k n0 : Nat} (C : lk_LC X p s m meth c b L xs cc ss) (hk : k + 5 ≤ L) (hc : n0 ≤ 1000000) (hR : lk_Rel σ τ n0) (kk : ∀ σ2 τ2, lk_Rel σ2 τ2 (n0 + 1) → lk_LW l e X p s m below meth c b cc ss 1130 [] (nI k) σ2 τ2) : lk_LW l e X p s m below meth c b cc ss 862 [] (nI k) σ τ := by
  obtain ⟨n, nf, nt, hR⟩ := hR
  refine lk_Lal1 C dL_law_862 ?_
  refine lk_Larg (j := 1) C dL_law_863 dL_law_864 dL_law_865 dL_law_866 dL_law_867 rfl (by omega) ?_
  refine lk_Larg (j := 2) C dL_law_868 dL_law_869 dL_law_870 dL_law_871 dL_law_872 rfl (by omega) ?_
  refine lk_Larg (j := 3) C dL_law_873 dL_law_874 dL_law_875 dL_law_876 dL_law_877 rfl (by omega) ?_
  refine lk_Lcall (M' := mX8_pond) (d := 6) (o := 0) (ci := 8) (as := [lk_vi (xs (k + 1)), lk_vi (xs (k + 2)), lk_vi (xs (k + 3))]) (S := []) C dL_law_878 rfl vX8_pond rfl lL_113 rfl rfl (by decide) (by decide) (pp_pond l X 0 0 σ τ n nf nt n0 hR (xs (k + 1)) (xs (k + 2)) (xs (k + 3))) (fun r σ1 τ1 hQ => ?_)
  obtain ⟨⟨v, hv, hvt⟩, hM⟩ := hQ
  obtain ⟨x, hx⟩ := lk_vint (M := mX9_pond) hvt rfl
  subst hx; subst hv
  refine lk_Lal2 C dL_law_881 ?_
  refine lk_Larg (j := 1) C dL_law_882 dL_law_883 dL_law_884 dL_law_885 dL_law_886 rfl (by omega) ?_
  refine lk_Larg (j := 2) C dL_law_887 dL_law_888 dL_law_889 dL_law_890 dL_law_891 rfl (by omega) ?_
  refine lk_Larg (j := 3) C dL_law_892 dL_law_893 dL_law_894 dL_law_895 dL_law_896 rfl (by omega) ?_
  refine lk_Lcall (M' := mX9_pond) (d := 7) (o := 1) (ci := 9) (as := [lk_vi (xs (k + 1)), lk_vi (xs (k + 2)), lk_vi (xs (k + 3))]) (S := [.int x]) C dL_law_897 rfl vX9_pond rfl lL_116 rfl rfl (Nat.le_of_ble_eq_true rfl) (by decide) hM (fun r2 σ2 τ2 hQ2 => ?_)
  obtain ⟨hr2, hR2⟩ := hQ2
  subst hr2
  exact lk_Leq C dL_law_900 (by decide) (kk σ2 τ2 hR2)
theorem lk_case25 (l : Launch) {e : Env} {X : lk_G} {p : Program} {s : State} {m : MethodId} {below : List Frame} {meth : Method} {c : Code} {b L : Nat} {xs : Nat → Int32} {cc ss : Nat} {σ : lk_N} {τ : lk_T} {k n0 : Nat} (C : lk_LC X p s m meth c b L xs cc ss) (hk : k + 5 ≤ L) (hc : n0 ≤ 1000000) (hR : lk_Rel σ τ n0) (kk : ∀ σ2 τ2, lk_Rel σ2 τ2 (n0 + 1) → lk_LW l e X p s m below meth c b cc ss 1130 [] (nI k) σ2 τ2) : lk_LW l e X p s m below meth c b cc ss 905 [] (nI k) σ τ := by
  obtain ⟨n, nf, nt, hR⟩ := hR
  refine lk_Lal1 C dL_law_905 ?_
  refine lk_Lcall (M' := mX8_water) (d := 1) (o := 0) (ci := 8) (as := []) (S := []) C dL_law_906 rfl vX8_water rfl lL_117 rfl rfl (by decide) (by decide) (pp_water l X 0 0 σ τ n nf nt n0 hR ) (fun r σ1 τ1 hQ => ?_)
  obtain ⟨⟨v, hv, hvt⟩, hM⟩ := hQ
  obtain ⟨x, hx⟩ := lk_vint (M := mX9_water) hvt rfl
  subst hx; subst hv
  refine lk_Lal2 C dL_law_909 ?_
  refine lk_Lcall (M' := mX9_water) (d := 0) (o := 1) (ci := 9) (as := []) (S := [.int x]) C dL_law_910 rfl vX9_water rfl lL_120 rfl rfl (Nat.le_of_ble_eq_true rfl) (by decide) hM (fun r2 σ2 τ2 hQ2 => ?_)
  obtain ⟨hr2, hR2⟩ := hQ2
  subst hr2
  exact lk_Leq C dL_law_913 (by decide) (kk σ2 τ2 hR2)
theorem lk_case26 (l : Launch) {e : Env} {X : lk_G} {p : Program} {s : State} {m : MethodId} {below : List Frame} {meth : Method} {c : Code} {b L : Nat} {xs : Nat → Int32} {cc ss : Nat} {σ : lk_N} {τ : lk_T} {k n0 : Nat} (C : lk_LC X p s m meth c b L xs cc ss) (hk : k + 5 ≤ L) (hc : n0 ≤ 1000000) (hR : lk_Rel σ τ n0) (kk : ∀ σ2 τ2, lk_Rel σ2 τ2 (n0 + 1) → lk_LW l e X p s m below meth c b cc ss 1130 [] (nI k) σ2 τ2) : lk_LW l e X p s m below meth c b cc ss 918 [] (nI k) σ τ := by
  obtain ⟨n, nf, nt, hR⟩ := hR
  refine lk_Lal1 C dL_law_918 ?_
  refine lk_Larg (j := 1) C dL_law_919 dL_law_920 dL_law_921 dL_law_922 dL_law_923 rfl (by omega) ?_
  refine lk_Lcall (M' := mX8_levels) (d := 1) (o := 0) (ci := 8) (as := [lk_vi (xs (k + 1))]) (S := []) C dL_law_924 rfl vX8_levels rfl lL_121 rfl rfl (by decide) (by decide) (pp_levels l X 0 0 σ τ n nf nt n0 hR (xs (k + 1))) (fun r σ1 τ1 hQ => ?_)
  obtain ⟨⟨v, hv, hvt⟩, hM⟩ := hQ
  obtain ⟨x, hx⟩ := lk_vint (M := mX9_levels) hvt rfl
  subst hx; subst hv
  refine lk_Lal2 C dL_law_927 ?_
  refine lk_Larg (j := 1) C dL_law_928 dL_law_929 dL_law_930 dL_law_931 dL_law_932 rfl (by omega) ?_
  refine lk_Lcall (M' := mX9_levels) (d := 1) (o := 1) (ci := 9) (as := [lk_vi (xs (k + 1))]) (S := [.int x]) C dL_law_933 rfl vX9_levels rfl lL_124 rfl rfl (Nat.le_of_ble_eq_true rfl) (by decide) hM (fun r2 σ2 τ2 hQ2 => ?_)
  obtain ⟨hr2, hR2⟩ := hQ2
  subst hr2
  exact lk_Leq C dL_law_936 (by decide) (kk σ2 τ2 hR2)
theorem lk_case27 (l : Launch) {e : Env} {X : lk_G} {p : Program} {s : State} {m : MethodId} {below : List Frame} {meth : Method} {c : Code} {b L : Nat} {xs : Nat → Int32} {cc ss : Nat} {σ : lk_N} {τ : lk_T} {k n0 : Nat} (C : lk_LC X p s m meth c b L xs cc ss) (hk : k + 5 ≤ L) (hc : n0 ≤ 1000000) (hR : lk_Rel σ τ n0) (kk : ∀ σ2 τ2, lk_Rel σ2 τ2 (n0 + 1) → lk_LW l e X p s m below meth c b cc ss 1130 [] (nI k) σ2 τ2) : lk_LW l e X p s m below meth c b cc ss 941 [] (nI k) σ τ := by
  obtain ⟨n, nf, nt, hR⟩ := hR
  refine lk_Lal1 C dL_law_941 ?_
  refine lk_Larg (j := 1) C dL_law_942 dL_law_943 dL_law_944 dL_law_945 dL_law_946 rfl (by omega) ?_
  refine lk_Larg (j := 2) C dL_law_947 dL_law_948 dL_law_949 dL_law_950 dL_law_951 rfl (by omega) ?_
  refine lk_Lcall (M' := mX8_tally) (d := 1) (o := 0) (ci := 8) (as := [lk_vi (xs (k + 1)), lk_vi (xs (k + 2))]) (S := []) C dL_law_952 rfl vX8_tally rfl lL_125 rfl rfl (by decide) (by decide) (pp_tally l X 0 0 σ τ n nf nt n0 hR (xs (k + 1)) (xs (k + 2))) (fun r σ1 τ1 hQ => ?_)
  obtain ⟨⟨v, hv, hvt⟩, hM⟩ := hQ
  obtain ⟨x, hx⟩ := lk_vint (M := mX9_tally) hvt rfl
  subst hx; subst hv
  refine lk_Lal2 C dL_law_955 ?_
  refine lk_Larg (j := 1) C dL_law_956 dL_law_957 dL_law_958 dL_law_959 dL_law_960 rfl (by omega) ?_
  refine lk_Larg (j := 2) C dL_law_961 dL_law_962 dL_law_963 dL_law_964 dL_law_965 rfl (by omega) ?_
  refine lk_Lcall (M' := mX9_tally) (d := 1) (o := 1) (ci := 9) (as := [lk_vi (xs (k + 1)), lk_vi (xs (k + 2))]) (S := [.int x]) C dL_law_966 rfl vX9_tally rfl lL_128 rfl rfl (Nat.le_of_ble_eq_true rfl) (by decide) hM (fun r2 σ2 τ2 hQ2 => ?_)
  obtain ⟨hr2, hR2⟩ := hQ2
  subst hr2
  exact lk_Leq C dL_law_969 (by decide) (kk σ2 τ2 hR2)
theorem lk_case28 (l : Launch) {e : Env} {X : lk_G} {p : Program} {s : State} {m : MethodId} {below : List Frame} {meth : Method} {c : Code} {b L : Nat} {xs : Nat → Int32} {cc ss : Nat} {σ : lk_N} {τ : lk_T} {k n0 : Nat} (C : lk_LC X p s m meth c b L xs cc ss) (hk : k + 5 ≤ L) (hc : n0 ≤ 1000000) (hR : lk_Rel σ τ n0) (kk : ∀ σ2 τ2, lk_Rel σ2 τ2 (n0 + 1) → lk_LW l e X p s m below meth c b cc ss 1130 [] (nI k) σ2 τ2) : lk_LW l e X p s m below meth c b cc ss 974 [] (nI k) σ τ := by
  obtain ⟨n, nf, nt, hR⟩ := hR
  refine lk_Lal1 C dL_law_974 ?_
  refine lk_Larg (j := 1) C dL_law_975 dL_law_976 dL_law_977 dL_law_978 dL_law_979 rfl (by omega) ?_
  refine lk_Li2l C dL_law_980 ?_
  refine lk_Lshl32 C dL_law_981 dL_law_983 ?_
  refine lk_Larg (j := 2) C dL_law_984 dL_law_985 dL_law_986 dL_law_987 dL_law_988 rfl (by omega) ?_
  refine lk_Li2l C dL_law_989 ?_
  refine lk_Lmask C dL_law_990 dL_law_993 ?_
  refine lk_Llor C dL_law_994 ?_
  refine lk_Larg (j := 3) C dL_law_995 dL_law_996 dL_law_997 dL_law_998 dL_law_999 rfl (by omega) ?_
  refine lk_Li2l C dL_law_1000 ?_
  refine lk_Lshl32 C dL_law_1001 dL_law_1003 ?_
  refine lk_Larg (j := 4) C dL_law_1004 dL_law_1005 dL_law_1006 dL_law_1007 dL_law_1008 rfl (by omega) ?_
  refine lk_Li2l C dL_law_1009 ?_
  refine lk_Lmask C dL_law_1010 dL_law_1013 ?_
  refine lk_Llor C dL_law_1014 ?_
  refine lk_Lcall (M' := mX8_pays) (d := 0) (o := 0) (ci := 8) (as := [lk_vl ((((xs (k + 1)).toInt64 <<< ((32 : Int32).toInt64 &&& 63)) ||| ((xs (k + 2)).toInt64 &&& 4294967295))), lk_vl ((((xs (k + 3)).toInt64 <<< ((32 : Int32).toInt64 &&& 63)) ||| ((xs (k + 4)).toInt64 &&& 4294967295)))]) (S := []) C dL_law_1015 rfl vX8_pays rfl lL_131 rfl rfl (by decide) (by decide) (pp_pays l X 0 0 σ τ n nf nt n0 hR ((((xs (k + 1)).toInt64 <<< ((32 : Int32).toInt64 &&& 63)) ||| ((xs (k + 2)).toInt64 &&& 4294967295))) ((((xs (k + 3)).toInt64 <<< ((32 : Int32).toInt64 &&& 63)) ||| ((xs (k + 4)).toInt64 &&& 4294967295)))) (fun r σ1 τ1 hQ => ?_)
  obtain ⟨⟨v, hv, hvt⟩, hM⟩ := hQ
  obtain ⟨x, hx⟩ := lk_vint (M := mX9_pays) hvt rfl
  subst hx; subst hv
  refine lk_Lal2 C dL_law_1018 ?_
  refine lk_Larg (j := 1) C dL_law_1019 dL_law_1020 dL_law_1021 dL_law_1022 dL_law_1023 rfl (by omega) ?_
  refine lk_Li2l C dL_law_1024 ?_
  refine lk_Lshl32 C dL_law_1025 dL_law_1027 ?_
  refine lk_Larg (j := 2) C dL_law_1028 dL_law_1029 dL_law_1030 dL_law_1031 dL_law_1032 rfl (by omega) ?_
  refine lk_Li2l C dL_law_1033 ?_
  refine lk_Lmask C dL_law_1034 dL_law_1037 ?_
  refine lk_Llor C dL_law_1038 ?_
  refine lk_Larg (j := 3) C dL_law_1039 dL_law_1040 dL_law_1041 dL_law_1042 dL_law_1043 rfl (by omega) ?_
  refine lk_Li2l C dL_law_1044 ?_
  refine lk_Lshl32 C dL_law_1045 dL_law_1047 ?_
  refine lk_Larg (j := 4) C dL_law_1048 dL_law_1049 dL_law_1050 dL_law_1051 dL_law_1052 rfl (by omega) ?_
  refine lk_Li2l C dL_law_1053 ?_
  refine lk_Lmask C dL_law_1054 dL_law_1057 ?_
  refine lk_Llor C dL_law_1058 ?_
  refine lk_Lcall (M' := mX9_pays) (d := 1) (o := 1) (ci := 9) (as := [lk_vl ((((xs (k + 1)).toInt64 <<< ((32 : Int32).toInt64 &&& 63)) ||| ((xs (k + 2)).toInt64 &&& 4294967295))), lk_vl ((((xs (k + 3)).toInt64 <<< ((32 : Int32).toInt64 &&& 63)) ||| ((xs (k + 4)).toInt64 &&& 4294967295)))]) (S := [.int x]) C dL_law_1059 rfl vX9_pays rfl lL_135 rfl rfl (Nat.le_of_ble_eq_true rfl) (by decide) hM (fun r2 σ2 τ2 hQ2 => ?_)
  obtain ⟨hr2, hR2⟩ := hQ2
  subst hr2
  exact lk_Leq C dL_law_1062 (by decide) (kk σ2 τ2 hR2)
theorem lk_case29 (l : Launch) {e : Env} {X : lk_G} {p : Program} {s : State} {m : MethodId} {below : List Frame} {meth : Method} {c : Code} {b L : Nat} {xs : Nat → Int32} {cc ss : Nat} {σ : lk_N} {τ : lk_T} {k n0 : Nat} (C : lk_LC X p s m meth c b L xs cc ss) (hk : k + 5 ≤ L) (hc : n0 ≤ 1000000) (hR : lk_Rel σ τ n0) (kk : ∀ σ2 τ2, lk_Rel σ2 τ2 (n0 + 1) → lk_LW l e X p s m below meth c b cc ss 1130 [] (nI k) σ2 τ2) : lk_LW l e X p s m below meth c b cc ss 1067 [] (nI k) σ τ := by
  obtain ⟨n, nf, nt, hR⟩ := hR
  refine lk_Lal1 C dL_law_1067 ?_
  refine lk_Lcall (M' := mX8_account) (d := 0) (o := 0) (ci := 8) (as := []) (S := []) C dL_law_1068 rfl vX8_account rfl lL_136 rfl rfl (by decide) (by decide) (pp_account l X 0 0 σ τ n nf nt n0 hR ) (fun r σ1 τ1 hQ => ?_)
  obtain ⟨⟨v, hv, hvt⟩, hM⟩ := hQ
  obtain ⟨x, hx⟩ := lk_vlong (M := mX9_account) hvt rfl
  subst hx; subst hv
  refine lk_Lal2 C dL_law_1071 ?_
  refine lk_Lcall (M' := mX9_account) (d := 0) (o := 1) (ci := 9) (as := []) (S := [.long x]) C dL_law_1072 rfl vX9_account rfl lL_140 rfl rfl (Nat.le_of_ble_eq_true rfl) (by decide) hM (fun r2 σ2 τ2 hQ2 => ?_)
  obtain ⟨hr2, hR2⟩ := hQ2
  subst hr2
  exact lk_Lcmp0 C dL_law_1075 dL_law_1076 (by decide) (kk σ2 τ2 hR2)
theorem lk_case30 (l : Launch) {e : Env} {X : lk_G} {p : Program} {s : State} {m : MethodId} {below : List Frame} {meth : Method} {c : Code} {b L : Nat} {xs : Nat → Int32} {cc ss : Nat} {σ : lk_N} {τ : lk_T} {k n0 : Nat} (C : lk_LC X p s m meth c b L xs cc ss) (hk : k + 5 ≤ L) (hc : n0 ≤ 1000000) (hR : lk_Rel σ τ n0) (kk : ∀ σ2 τ2, lk_Rel σ2 τ2 (n0 + 1) → lk_LW l e X p s m below meth c b cc ss 1130 [] (nI k) σ2 τ2) : lk_LW l e X p s m below meth c b cc ss 1081 [] (nI k) σ τ := by
  obtain ⟨n, nf, nt, hR⟩ := hR
  refine lk_Lal1 C dL_law_1081 ?_
  refine lk_Lcall (M' := mX8_image) (d := 4) (o := 0) (ci := 8) (as := []) (S := []) C dL_law_1082 rfl vX8_image rfl lL_141 rfl rfl (by decide) (by decide) (pp_image l X 0 0 σ τ n nf nt n0 hR ) (fun r σ1 τ1 hQ => ?_)
  obtain ⟨⟨v, hv, hvt⟩, hM⟩ := hQ
  obtain ⟨x, hx⟩ := lk_vint (M := mX9_image) hvt rfl
  subst hx; subst hv
  refine lk_Lal2 C dL_law_1085 ?_
  refine lk_Lcall (M' := mX9_image) (d := 1) (o := 1) (ci := 9) (as := []) (S := [.int x]) C dL_law_1086 rfl vX9_image rfl lL_144 rfl rfl (Nat.le_of_ble_eq_true rfl) (by decide) hM (fun r2 σ2 τ2 hQ2 => ?_)
  obtain ⟨hr2, hR2⟩ := hQ2
  subst hr2
  exact lk_Leq C dL_law_1089 (by decide) (kk σ2 τ2 hR2)
theorem lk_case31 (l : Launch) {e : Env} {X : lk_G} {p : Program} {s : State} {m : MethodId} {below : List Frame} {meth : Method} {c : Code} {b L : Nat} {xs : Nat → Int32} {cc ss : Nat} {σ : lk_N} {τ : lk_T} {k n0 : Nat} (C : lk_LC X p s m meth c b L xs cc ss) (hk : k + 5 ≤ L) (hc : n0 ≤ 1000000) (hR : lk_Rel σ τ n0) (kk : ∀ σ2 τ2, lk_Rel σ2 τ2 (n0 + 1) → lk_LW l e X p s m below meth c b cc ss 1130 [] (nI k) σ2 τ2) : lk_LW l e X p s m below meth c b cc ss 1094 [] (nI k) σ τ := by
  obtain ⟨n, nf, nt, hR⟩ := hR
  refine lk_Lal1 C dL_law_1094 ?_
  refine lk_Lcall (M' := mX8_undo) (d := 4) (o := 0) (ci := 8) (as := []) (S := []) C dL_law_1095 rfl vX8_undo rfl lL_145 rfl rfl (by decide) (by decide) (pp_undo l X 0 0 σ τ n nf nt n0 hR ) (fun r σ1 τ1 hQ => ?_)
  obtain ⟨⟨v, hv, hvt⟩, hM⟩ := hQ
  obtain ⟨x, hx⟩ := lk_vint (M := mX9_undo) hvt rfl
  subst hx; subst hv
  refine lk_Lal2 C dL_law_1098 ?_
  refine lk_Lcall (M' := mX9_undo) (d := 1) (o := 1) (ci := 9) (as := []) (S := [.int x]) C dL_law_1099 rfl vX9_undo rfl lL_148 rfl rfl (Nat.le_of_ble_eq_true rfl) (by decide) hM (fun r2 σ2 τ2 hQ2 => ?_)
  obtain ⟨hr2, hR2⟩ := hQ2
  subst hr2
  exact lk_Leq C dL_law_1102 (by decide) (kk σ2 τ2 hR2)
theorem lk_case32 (l : Launch) {e : Env} {X : lk_G} {p : Program} {s : State} {m : MethodId} {below : List Frame} {meth : Method} {c : Code} {b L : Nat} {xs : Nat → Int32} {cc ss : Nat} {σ : lk_N} {τ : lk_T} {k n0 : Nat} (C : lk_LC X p s m meth c b L xs cc ss) (hk : k + 5 ≤ L) (hc : n0 ≤ 1000000) (hR : lk_Rel σ τ n0) (kk : ∀ σ2 τ2, lk_Rel σ2 τ2 (n0 + 1) → lk_LW l e X p s m below meth c b cc ss 1130 [] (nI k) σ2 τ2) : lk_LW l e X p s m below meth c b cc ss 1107 [] (nI k) σ τ := by
  obtain ⟨n, nf, nt, hR⟩ := hR
  refine lk_Lal1 C dL_law_1107 ?_
  refine lk_Larg (j := 1) C dL_law_1108 dL_law_1109 dL_law_1110 dL_law_1111 dL_law_1112 rfl (by omega) ?_
  refine lk_Lcall (M' := mX8_count) (d := 1) (o := 0) (ci := 8) (as := [lk_vi (xs (k + 1))]) (S := []) C dL_law_1113 rfl vX8_count rfl lL_149 rfl rfl (by decide) (by decide) (pp_count l X 0 0 σ τ n nf nt n0 hR (xs (k + 1))) (fun r σ1 τ1 hQ => ?_)
  obtain ⟨⟨v, hv, hvt⟩, hM⟩ := hQ
  obtain ⟨x, hx⟩ := lk_vint (M := mX9_count) hvt rfl
  subst hx; subst hv
  refine lk_Lal2 C dL_law_1116 ?_
  refine lk_Larg (j := 1) C dL_law_1117 dL_law_1118 dL_law_1119 dL_law_1120 dL_law_1121 rfl (by omega) ?_
  refine lk_Lcall (M' := mX9_count) (d := 0) (o := 1) (ci := 9) (as := [lk_vi (xs (k + 1))]) (S := [.int x]) C dL_law_1122 rfl vX9_count rfl lL_152 rfl rfl (Nat.le_of_ble_eq_true rfl) (by decide) hM (fun r2 σ2 τ2 hQ2 => ?_)
  obtain ⟨hr2, hR2⟩ := hQ2
  subst hr2
  exact lk_Leq C dL_law_1125 (by decide) (kk σ2 τ2 hR2)
/-- the word x picks a case, or none -/
theorem lk_Lsw (l : Launch) {e : Env} {X : lk_G} {p : Program} {s : State} {m : MethodId} {below : List Frame} {meth : Method} {c : Code} {b L : Nat} {xs : Nat → Int32} {cc ss : Nat} {σ : lk_N} {τ : lk_T} {k n0 : Nat} (C : lk_LC X p s m meth c b L xs cc ss) (hk : k + 5 ≤ L) (hc : n0 ≤ 1000000) (hR : lk_Rel σ τ n0) (kk : ∀ σ2 τ2, lk_Rel σ2 τ2 (n0 + 1) → lk_LW l e X p s m below meth c b cc ss 1130 [] (nI k) σ2 τ2) (x : Int32) : lk_LW l e X p s m below meth c b cc ss 32 [.int x] (nI k) σ τ := by
  by_cases h : x.toInt < 0 ∨ 32 < x.toInt
  · intro H locs ls hP hD hS hl
    exact lv_tableOut (tgt := 1130) C.1.1 C.1.2.1 dL_law_32 h (by decide) (kk _ _ (by obtain ⟨n, nf, nt, hR⟩ := hR; exact ⟨n, nf, nt, lk_R_kp (lk_kp_rf σ) hR⟩) H locs ls hP hD hS hl)
  · have h1 : ¬ x.toInt < 0 := fun z => h (Or.inl z)
    have h2 : ¬ 32 < x.toInt := fun z => h (Or.inr z)
    obtain ⟨j, hj, hx⟩ : ∃ j : Nat, j < 33 ∧ x.toInt = (j : Int) := ⟨x.toInt.toNat, by omega, by omega⟩
    intro H locs ls hP hD hS hl
    rcases j with _ | j
    · exact lv_tableIn (off := 148) (tgt := 180) C.1.1 C.1.2.1 dL_law_32 h1 h2 (by rw [hx]; rfl) (by decide) (lk_case0 l C hk hc hR kk H locs ls hP hD hS hl)
    rcases j with _ | j
    · exact lv_tableIn (off := 171) (tgt := 203) C.1.1 C.1.2.1 dL_law_32 h1 h2 (by rw [hx]; rfl) (by decide) (lk_case1 l C hk hc hR kk H locs ls hP hD hS hl)
    rcases j with _ | j
    · exact lv_tableIn (off := 214) (tgt := 246) C.1.1 C.1.2.1 dL_law_32 h1 h2 (by rw [hx]; rfl) (by decide) (lk_case2 l C hk hc hR kk H locs ls hP hD hS hl)
    rcases j with _ | j
    · exact lv_tableIn (off := 247) (tgt := 279) C.1.1 C.1.2.1 dL_law_32 h1 h2 (by rw [hx]; rfl) (by decide) (lk_case3 l C hk hc hR kk H locs ls hP hD hS hl)
    rcases j with _ | j
    · exact lv_tableIn (off := 290) (tgt := 322) C.1.1 C.1.2.1 dL_law_32 h1 h2 (by rw [hx]; rfl) (by decide) (lk_case4 l C hk hc hR kk H locs ls hP hD hS hl)
    rcases j with _ | j
    · exact lv_tableIn (off := 323) (tgt := 355) C.1.1 C.1.2.1 dL_law_32 h1 h2 (by rw [hx]; rfl) (by decide) (lk_case5 l C hk hc hR kk H locs ls hP hD hS hl)
    rcases j with _ | j
    · exact lv_tableIn (off := 346) (tgt := 378) C.1.1 C.1.2.1 dL_law_32 h1 h2 (by rw [hx]; rfl) (by decide) (lk_case6 l C hk hc hR kk H locs ls hP hD hS hl)
    rcases j with _ | j
    · exact lv_tableIn (off := 369) (tgt := 401) C.1.1 C.1.2.1 dL_law_32 h1 h2 (by rw [hx]; rfl) (by decide) (lk_case7 l C hk hc hR kk H locs ls hP hD hS hl)
    rcases j with _ | j
    · exact lv_tableIn (off := 382) (tgt := 414) C.1.1 C.1.2.1 dL_law_32 h1 h2 (by rw [hx]; rfl) (by decide) (lk_case8 l C hk hc hR kk H locs ls hP hD hS hl)
    rcases j with _ | j
    · exact lv_tableIn (off := 415) (tgt := 447) C.1.1 C.1.2.1 dL_law_32 h1 h2 (by rw [hx]; rfl) (by decide) (lk_case9 l C hk hc hR kk H locs ls hP hD hS hl)
    rcases j with _ | j
    · exact lv_tableIn (off := 428) (tgt := 460) C.1.1 C.1.2.1 dL_law_32 h1 h2 (by rw [hx]; rfl) (by decide) (lk_case10 l C hk hc hR kk H locs ls hP hD hS hl)
    rcases j with _ | j
    · exact lv_tableIn (off := 451) (tgt := 483) C.1.1 C.1.2.1 dL_law_32 h1 h2 (by rw [hx]; rfl) (by decide) (lk_case11 l C hk hc hR kk H locs ls hP hD hS hl)
    rcases j with _ | j
    · exact lv_tableIn (off := 474) (tgt := 506) C.1.1 C.1.2.1 dL_law_32 h1 h2 (by rw [hx]; rfl) (by decide) (lk_case12 l C hk hc hR kk H locs ls hP hD hS hl)
    rcases j with _ | j
    · exact lv_tableIn (off := 497) (tgt := 529) C.1.1 C.1.2.1 dL_law_32 h1 h2 (by rw [hx]; rfl) (by decide) (lk_case13 l C hk hc hR kk H locs ls hP hD hS hl)
    rcases j with _ | j
    · exact lv_tableIn (off := 520) (tgt := 552) C.1.1 C.1.2.1 dL_law_32 h1 h2 (by rw [hx]; rfl) (by decide) (lk_case14 l C hk hc hR kk H locs ls hP hD hS hl)
    rcases j with _ | j
    · exact lv_tableIn (off := 543) (tgt := 575) C.1.1 C.1.2.1 dL_law_32 h1 h2 (by rw [hx]; rfl) (by decide) (lk_case15 l C hk hc hR kk H locs ls hP hD hS hl)
    rcases j with _ | j
    · exact lv_tableIn (off := 566) (tgt := 598) C.1.1 C.1.2.1 dL_law_32 h1 h2 (by rw [hx]; rfl) (by decide) (lk_case16 l C hk hc hR kk H locs ls hP hD hS hl)
    rcases j with _ | j
    · exact lv_tableIn (off := 599) (tgt := 631) C.1.1 C.1.2.1 dL_law_32 h1 h2 (by rw [hx]; rfl) (by decide) (lk_case17 l C hk hc hR kk H locs ls hP hD hS hl)
    rcases j with _ | j
    · exact lv_tableIn (off := 622) (tgt := 654) C.1.1 C.1.2.1 dL_law_32 h1 h2 (by rw [hx]; rfl) (by decide) (lk_case18 l C hk hc hR kk H locs ls hP hD hS hl)
    rcases j with _ | j
    · exact lv_tableIn (off := 655) (tgt := 687) C.1.1 C.1.2.1 dL_law_32 h1 h2 (by rw [hx]; rfl) (by decide) (lk_case19 l C hk hc hR kk H locs ls hP hD hS hl)
    rcases j with _ | j
    · exact lv_tableIn (off := 698) (tgt := 730) C.1.1 C.1.2.1 dL_law_32 h1 h2 (by rw [hx]; rfl) (by decide) (lk_case20 l C hk hc hR kk H locs ls hP hD hS hl)
    rcases j with _ | j
    · exact lv_tableIn (off := 731) (tgt := 763) C.1.1 C.1.2.1 dL_law_32 h1 h2 (by rw [hx]; rfl) (by decide) (lk_case21 l C hk hc hR kk H locs ls hP hD hS hl)
    rcases j with _ | j
    · exact lv_tableIn (off := 754) (tgt := 786) C.1.1 C.1.2.1 dL_law_32 h1 h2 (by rw [hx]; rfl) (by decide) (lk_case22 l C hk hc hR kk H locs ls hP hD hS hl)
    rcases j with _ | j
    · exact lv_tableIn (off := 787) (tgt := 819) C.1.1 C.1.2.1 dL_law_32 h1 h2 (by rw [hx]; rfl) (by decide) (lk_case23 l C hk hc hR kk H locs ls hP hD hS hl)
    rcases j with _ | j
    · exact lv_tableIn (off := 830) (tgt := 862) C.1.1 C.1.2.1 dL_law_32 h1 h2 (by rw [hx]; rfl) (by decide) (lk_case24 l C hk hc hR kk H locs ls hP hD hS hl)
    rcases j with _ | j
    · exact lv_tableIn (off := 873) (tgt := 905) C.1.1 C.1.2.1 dL_law_32 h1 h2 (by rw [hx]; rfl) (by decide) (lk_case25 l C hk hc hR kk H locs ls hP hD hS hl)
    rcases j with _ | j
    · exact lv_tableIn (off := 886) (tgt := 918) C.1.1 C.1.2.1 dL_law_32 h1 h2 (by rw [hx]; rfl) (by decide) (lk_case26 l C hk hc hR kk H locs ls hP hD hS hl)
    rcases j with _ | j
    · exact lv_tableIn (off := 909) (tgt := 941) C.1.1 C.1.2.1 dL_law_32 h1 h2 (by rw [hx]; rfl) (by decide) (lk_case27 l C hk hc hR kk H locs ls hP hD hS hl)
    rcases j with _ | j
    · exact lv_tableIn (off := 942) (tgt := 974) C.1.1 C.1.2.1 dL_law_32 h1 h2 (by rw [hx]; rfl) (by decide) (lk_case28 l C hk hc hR kk H locs ls hP hD hS hl)
    rcases j with _ | j
    · exact lv_tableIn (off := 1035) (tgt := 1067) C.1.1 C.1.2.1 dL_law_32 h1 h2 (by rw [hx]; rfl) (by decide) (lk_case29 l C hk hc hR kk H locs ls hP hD hS hl)
    rcases j with _ | j
    · exact lv_tableIn (off := 1049) (tgt := 1081) C.1.1 C.1.2.1 dL_law_32 h1 h2 (by rw [hx]; rfl) (by decide) (lk_case30 l C hk hc hR kk H locs ls hP hD hS hl)
    rcases j with _ | j
    · exact lv_tableIn (off := 1062) (tgt := 1094) C.1.1 C.1.2.1 dL_law_32 h1 h2 (by rw [hx]; rfl) (by decide) (lk_case31 l C hk hc hR kk H locs ls hP hD hS hl)
    rcases j with _ | j
    · exact lv_tableIn (off := 1075) (tgt := 1107) C.1.1 C.1.2.1 dL_law_32 h1 h2 (by rw [hx]; rfl) (by decide) (lk_case32 l C hk hc hR kk H locs ls hP hD hS hl)
    omega
/-- a round of the loop, or its end -/
theorem lk_Lhead (l : Launch) {e : Env} {X : lk_G} {p : Program} {s : State} {m : MethodId} {below : List Frame} {meth : Method} {c : Code} {b L : Nat} {xs : Nat → Int32} {cc ss : Nat} {σ : lk_N} {τ : lk_T} {k n0 : Nat} (C : lk_LC X p s m meth c b L xs cc ss) (hk : k ≤ L + 5) (hc : n0 ≤ 1000000) (hR : lk_Rel σ τ n0) (kk : k + 5 ≤ L → ∀ σ2 τ2, lk_Rel σ2 τ2 (n0 + 1) → lk_LW l e X p s m below meth c b cc ss 1130 [] (nI k) σ2 τ2) : lk_LW l e X p s m below meth c b cc ss 18 [] (nI k) σ τ := by
  have hL := C.2.2.2.2.2
  have ht : (Int32.ofNat L - 5).toInt = (L : Int) - 5 := lk_ts (nI_toInt (show L < 2 ^ 31 by omega)) (show (5 : Int32).toInt = 5 from rfl) (by omega) (by omega) (by decide) (by decide)
  intro H locs ls hP hD hS hl
  refine lv_iload_n C.1.1 C.1.2.1 dL_law_18 rfl (lv_at hl 0 rfl) ?_
  refine lv_aload_n C.1.1 C.1.2.1 dL_law_19 rfl (lv_at hl 1 rfl) ?_
  refine va_slen C.1.1 C.1.2.1 C.1.2.2.2.2.2.2.1 C.1.2.2.2.2.2.2.2.1 (A := fun q => s.heap.size ≤ q) (by have := C.1.2.2.2.2.2.2.2.1; omega) hS dL_law_20 ?_
  refine lv_iconst (v := 5) C.1.1 C.1.2.1 dL_law_21 (by decide) ?_
  refine lv_isub C.1.1 C.1.2.1 dL_law_22 ?_
  refine lv_icmp_gt (tgt := 1136) C.1.1 C.1.2.1 dL_law_23 (by decide) (fun _ => lk_Lend C dL_law_1136 dL_law_1137 H locs ls hP hD hS hl) (fun hg => ?_)
  have hk5 : k + 5 ≤ L := by
    have := Int32.le_iff_toInt_le.mp (Int32.not_lt.mp hg)
    rw [ht, nI_toInt (show k < 2 ^ 31 by omega)] at this
    omega
  refine lv_aload_n C.1.1 C.1.2.1 dL_law_26 rfl (lv_at hl 1 rfl) ?_
  refine lv_iload_n C.1.1 C.1.2.1 dL_law_27 rfl (lv_at hl 0 rfl) ?_
  refine va_sld C.1.1 C.1.2.1 C.1.2.2.2.2.2.2.1 C.1.2.2.2.2.2.2.2.1 (A := fun q => s.heap.size ≤ q) (by have := C.1.2.2.2.2.2.2.2.1; omega) hS (vp_in_nI (show k < L by omega) (by omega)) dL_law_28 ?_
  refine lv_bipush (v := 63) C.1.1 C.1.2.1 dL_law_29 (by decide) ?_
  refine lv_iand C.1.1 C.1.2.1 dL_law_31 ?_
  exact lk_Lsw l C hk5 hc hR (kk hk5) _ H locs ls hP hD hS hl
/-- THE LOOP: from its head, class and model related, the law ends with true -/
theorem lk_Lloop (l : Launch) {e : Env} {X : lk_G} {p : Program} {s : State} {m : MethodId} {below : List Frame} {meth : Method} {c : Code} {b L : Nat} {xs : Nat → Int32} {cc ss : Nat} (C : lk_LC X p s m meth c b L xs cc ss) : ∀ (g k n0 : Nat) (σ : lk_N) (τ : lk_T), L + 5 ≤ k + g → k ≤ L + 5 → n0 ≤ k → lk_Rel σ τ n0 → lk_LW l e X p s m below meth c b cc ss 18 [] (nI k) σ τ
  | g, k, n0, σ, τ, hg, hk, hn, hR => by
    have hL := C.2.2.2.2.2
    refine lk_Lhead l C hk (by omega) hR (fun hk5 σ2 τ2 hR2 => lk_Lnext C dL_law_1130 dL_law_1133 ?_)
    match g, hg with
    | 0, hg => omega
    | g + 1, hg => exact lk_Lloop l C g (k + 5) (n0 + 1) σ2 τ2 (by omega) (by omega) (by omega) hR2
