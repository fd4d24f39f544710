/-! the tables' words that a method may use, by their places (printed by wip/whole/gen_words.py) -/
def lk_AW : List Cond := lw_tbl.filter goodWord
theorem lk_in {w : Cond} (h : w ∈ tables_1) (hg : goodWord w = true) : w ∈ lk_AW := List.mem_filter.mpr ⟨List.mem_append_right _ h, hg⟩
theorem lk_in1 {w : Cond} (h : w ∈ tables_1_1) (hg : goodWord w = true) : w ∈ lk_AW := lk_in (List.mem_append_left _ h) hg
theorem lk_in2 {w : Cond} (h : w ∈ tables_1_2) (hg : goodWord w = true) : w ∈ lk_AW := lk_in (List.mem_append_right _ (List.mem_append_left _ h)) hg
theorem lk_in3 {w : Cond} (h : w ∈ tables_1_3) (hg : goodWord w = true) : w ∈ lk_AW := lk_in (List.mem_append_right _ (List.mem_append_right _ (List.mem_append_left _ h))) hg
theorem lk_in4 {w : Cond} (h : w ∈ tables_1_4) (hg : goodWord w = true) : w ∈ lk_AW := lk_in (List.mem_append_right _ (List.mem_append_right _ (List.mem_append_right _ (List.mem_append_left _ h)))) hg
theorem lk_in5 {w : Cond} (h : w ∈ tables_1_5) (hg : goodWord w = true) : w ∈ lk_AW := lk_in (List.mem_append_right _ (List.mem_append_right _ (List.mem_append_right _ (List.mem_append_right _ h)))) hg
theorem lk_inS {w : Cond} (h : w ∈ k2_sels lw_privs) (hg : goodWord w = true) : w ∈ lk_AW := List.mem_filter.mpr ⟨List.mem_append_left _ h, hg⟩
abbrev lk_M : Type := MethodName × ByteArray × Nat × Option FieldType
/-- what a callee's tables say of it, whoever calls it; n: how many parameters -/
def lk_cv (M : lk_M) (n : Nat) : Prop := Cond.instanceMethod M.1 ∈ lk_AW ∧ Cond.selects M.1.cls M.1 M.1 ∈ lk_AW ∧ Cond.initialized M.1.cls ∈ lk_AW ∧ Cond.code M.1 M.2.1 M.2.2.1 M.2.2.2 ∈ lk_AW ∧ (M.1.cls ≠ "java/lang/invoke/MethodHandle" ∧ M.1.cls ≠ "java/lang/invoke/VarHandle" ∧ (parseMethodDescriptor M.1.desc).map (fun d => d.parameters.length) = some n) ∧ M.2.2.1 ≤ 21
def lk_cs (M : lk_M) (n : Nat) : Prop := Cond.static M.1 ∈ lk_AW ∧ Cond.initialized M.1.cls ∈ lk_AW ∧ Cond.code M.1 M.2.1 M.2.2.1 M.2.2.2 ∈ lk_AW ∧ (M.1.cls ≠ "java/lang/invoke/MethodHandle" ∧ M.1.cls ≠ "java/lang/invoke/VarHandle" ∧ (parseMethodDescriptor M.1.desc).map (fun d => d.parameters.length) = some n) ∧ M.2.2.1 ≤ 21
theorem iwX0 : ∀ w ∈ wsX00, w ∈ lk_AW := by decide +kernel
theorem iwX1 : ∀ w ∈ wsX10, w ∈ lk_AW := by decide +kernel
theorem iwX2 : ∀ w ∈ wsX20, w ∈ lk_AW := by decide +kernel
theorem iwX3 : ∀ w ∈ wsX30, w ∈ lk_AW := by decide +kernel
theorem iwX4 : ∀ w ∈ wsX40, w ∈ lk_AW := by decide +kernel
theorem iwX5 : ∀ w ∈ wsX50, w ∈ lk_AW := by decide +kernel
theorem iwX6 : ∀ w ∈ wsX60, w ∈ lk_AW := by decide +kernel
theorem iwX7 : ∀ w ∈ wsX70, w ∈ lk_AW := by decide +kernel
theorem iwX8 : ∀ w ∈ wsX80, w ∈ lk_AW := by decide +kernel
theorem iwX9 : ∀ w ∈ wsX90, w ∈ lk_AW := by decide +kernel
abbrev mX0_reset : lk_M := (yX0_reset, cX0_reset, 3, none)
theorem vX0_reset : lk_cv mX0_reset 1 := ⟨lk_in2 (List.mem_of_getElem? (i := 12) rfl) rfl, lk_in2 (List.mem_of_getElem? (i := 13) rfl) rfl, lk_in1 (List.mem_of_getElem? (i := 2) rfl) rfl, lk_in2 (List.mem_of_getElem? (i := 14) rfl) rfl, ⟨by decide +kernel, by decide +kernel, by decide +kernel⟩, by decide⟩
abbrev mX5_copyFrom : lk_M := (yX5_copyFrom, cX5_copyFrom, 2, none)
theorem vX5_copyFrom : lk_cv mX5_copyFrom 1 := ⟨lk_in3 (List.mem_of_getElem? (i := 50) rfl) rfl, lk_in3 (List.mem_of_getElem? (i := 51) rfl) rfl, lk_in1 (List.mem_of_getElem? (i := 3) rfl) rfl, lk_in3 (List.mem_of_getElem? (i := 52) rfl) rfl, ⟨by decide +kernel, by decide +kernel, by decide +kernel⟩, by decide⟩
abbrev mX0_copyFrom : lk_M := (yX0_copyFrom, cX0_copyFrom, 3, none)
theorem vX0_copyFrom : lk_cv mX0_copyFrom 1 := ⟨lk_in3 (List.mem_of_getElem? (i := 45) rfl) rfl, lk_in3 (List.mem_of_getElem? (i := 46) rfl) rfl, lk_in1 (List.mem_of_getElem? (i := 2) rfl) rfl, lk_in3 (List.mem_of_getElem? (i := 47) rfl) rfl, ⟨by decide +kernel, by decide +kernel, by decide +kernel⟩, by decide⟩
abbrev mX0_hasLock : lk_M := (yX0_hasLock, cX0_hasLock, 2, (some .boolean))
theorem vX0_hasLock : lk_cv mX0_hasLock 1 := ⟨lk_in2 (List.mem_of_getElem? (i := 67) rfl) rfl, lk_in2 (List.mem_of_getElem? (i := 68) rfl) rfl, lk_in1 (List.mem_of_getElem? (i := 2) rfl) rfl, lk_in2 (List.mem_of_getElem? (i := 69) rfl) rfl, ⟨by decide +kernel, by decide +kernel, by decide +kernel⟩, by decide⟩
abbrev mX0_copyLockFrom : lk_M := (yX0_copyLockFrom, cX0_copyLockFrom, 3, none)
theorem vX0_copyLockFrom : lk_cv mX0_copyLockFrom 2 := ⟨lk_in3 (List.mem_of_getElem? (i := 116) rfl) rfl, lk_in3 (List.mem_of_getElem? (i := 117) rfl) rfl, lk_in1 (List.mem_of_getElem? (i := 2) rfl) rfl, lk_in3 (List.mem_of_getElem? (i := 118) rfl) rfl, ⟨by decide +kernel, by decide +kernel, by decide +kernel⟩, by decide⟩
abbrev mX0_hasReach : lk_M := (yX0_hasReach, cX0_hasReach, 2, (some .boolean))
theorem vX0_hasReach : lk_cv mX0_hasReach 1 := ⟨lk_in2 (List.mem_of_getElem? (i := 94) rfl) rfl, lk_in2 (List.mem_of_getElem? (i := 95) rfl) rfl, lk_in1 (List.mem_of_getElem? (i := 2) rfl) rfl, lk_in2 (List.mem_of_getElem? (i := 96) rfl) rfl, ⟨by decide +kernel, by decide +kernel, by decide +kernel⟩, by decide⟩
abbrev mX0_isAtRest : lk_M := (yX0_isAtRest, cX0_isAtRest, 2, (some .boolean))
theorem vX0_isAtRest : lk_cv mX0_isAtRest 1 := ⟨lk_in2 (List.mem_of_getElem? (i := 74) rfl) rfl, lk_in2 (List.mem_of_getElem? (i := 75) rfl) rfl, lk_in1 (List.mem_of_getElem? (i := 2) rfl) rfl, lk_in2 (List.mem_of_getElem? (i := 76) rfl) rfl, ⟨by decide +kernel, by decide +kernel, by decide +kernel⟩, by decide⟩
abbrev mX0_share : lk_M := (yX0_share, cX0_share, 2, (some .int))
theorem vX0_share : lk_cv mX0_share 1 := ⟨lk_in2 (List.mem_of_getElem? (i := 82) rfl) rfl, lk_in2 (List.mem_of_getElem? (i := 83) rfl) rfl, lk_in1 (List.mem_of_getElem? (i := 2) rfl) rfl, lk_in2 (List.mem_of_getElem? (i := 84) rfl) rfl, ⟨by decide +kernel, by decide +kernel, by decide +kernel⟩, by decide⟩
abbrev mX0_lockNumber : lk_M := (yX0_lockNumber, cX0_lockNumber, 3, (some .int))
theorem vX0_lockNumber : lk_cv mX0_lockNumber 2 := ⟨lk_in2 (List.mem_of_getElem? (i := 78) rfl) rfl, lk_in2 (List.mem_of_getElem? (i := 79) rfl) rfl, lk_in1 (List.mem_of_getElem? (i := 2) rfl) rfl, lk_in2 (List.mem_of_getElem? (i := 80) rfl) rfl, ⟨by decide +kernel, by decide +kernel, by decide +kernel⟩, by decide⟩
abbrev mX0_reachNumber : lk_M := (yX0_reachNumber, cX0_reachNumber, 3, (some .int))
theorem vX0_reachNumber : lk_cv mX0_reachNumber 2 := ⟨lk_in2 (List.mem_of_getElem? (i := 101) rfl) rfl, lk_in2 (List.mem_of_getElem? (i := 102) rfl) rfl, lk_in1 (List.mem_of_getElem? (i := 2) rfl) rfl, lk_in2 (List.mem_of_getElem? (i := 103) rfl) rfl, ⟨by decide +kernel, by decide +kernel, by decide +kernel⟩, by decide⟩
abbrev mX0_setReach : lk_M := (yX0_setReach, cX0_setReach, 4, none)
theorem vX0_setReach : lk_cv mX0_setReach 3 := ⟨lk_in2 (List.mem_of_getElem? (i := 105) rfl) rfl, lk_in2 (List.mem_of_getElem? (i := 106) rfl) rfl, lk_in1 (List.mem_of_getElem? (i := 2) rfl) rfl, lk_in2 (List.mem_of_getElem? (i := 107) rfl) rfl, ⟨by decide +kernel, by decide +kernel, by decide +kernel⟩, by decide⟩
abbrev mX0_lockFrom : lk_M := (yX0_lockFrom, cX0_lockFrom, 2, (some .int))
theorem vX0_lockFrom : lk_cs mX0_lockFrom 2 := ⟨lk_in2 (List.mem_of_getElem? (i := 236) rfl) rfl, lk_in1 (List.mem_of_getElem? (i := 2) rfl) rfl, lk_in2 (List.mem_of_getElem? (i := 237) rfl) rfl, ⟨by decide +kernel, by decide +kernel, by decide +kernel⟩, by decide⟩
abbrev mX0_isBarred : lk_M := (yX0_isBarred, cX0_isBarred, 6, (some .boolean))
theorem vX0_isBarred : lk_cv mX0_isBarred 4 := ⟨lk_in3 (List.mem_of_getElem? (i := 11) rfl) rfl, lk_inS (List.mem_of_getElem? (i := 9) rfl) rfl, lk_in1 (List.mem_of_getElem? (i := 2) rfl) rfl, lk_in3 (List.mem_of_getElem? (i := 12) rfl) rfl, ⟨by decide +kernel, by decide +kernel, by decide +kernel⟩, by decide⟩
abbrev mX0_empties : lk_M := (yX0_empties, cX0_empties, 4, (some .boolean))
theorem vX0_empties : lk_cv mX0_empties 1 := ⟨lk_in3 (List.mem_of_getElem? (i := 7) rfl) rfl, lk_inS (List.mem_of_getElem? (i := 8) rfl) rfl, lk_in1 (List.mem_of_getElem? (i := 2) rfl) rfl, lk_in3 (List.mem_of_getElem? (i := 8) rfl) rfl, ⟨by decide +kernel, by decide +kernel, by decide +kernel⟩, by decide⟩
abbrev mX0_fills : lk_M := (yX0_fills, cX0_fills, 3, (some .boolean))
theorem vX0_fills : lk_cv mX0_fills 1 := ⟨lk_in3 (List.mem_of_getElem? (i := 15) rfl) rfl, lk_inS (List.mem_of_getElem? (i := 10) rfl) rfl, lk_in1 (List.mem_of_getElem? (i := 2) rfl) rfl, lk_in3 (List.mem_of_getElem? (i := 16) rfl) rfl, ⟨by decide +kernel, by decide +kernel, by decide +kernel⟩, by decide⟩
abbrev mX0_swaps : lk_M := (yX0_swaps, cX0_swaps, 3, (some .boolean))
theorem vX0_swaps : lk_cv mX0_swaps 2 := ⟨lk_in3 (List.mem_of_getElem? (i := 19) rfl) rfl, lk_inS (List.mem_of_getElem? (i := 11) rfl) rfl, lk_in1 (List.mem_of_getElem? (i := 2) rfl) rfl, lk_in3 (List.mem_of_getElem? (i := 20) rfl) rfl, ⟨by decide +kernel, by decide +kernel, by decide +kernel⟩, by decide⟩
abbrev mX5_add : lk_M := (yX5_add, cX5_add, 2, none)
theorem vX5_add : lk_cv mX5_add 1 := ⟨lk_in3 (List.mem_of_getElem? (i := 22) rfl) rfl, lk_in3 (List.mem_of_getElem? (i := 23) rfl) rfl, lk_in1 (List.mem_of_getElem? (i := 3) rfl) rfl, lk_in3 (List.mem_of_getElem? (i := 24) rfl) rfl, ⟨by decide +kernel, by decide +kernel, by decide +kernel⟩, by decide⟩
abbrev mX0_passage : lk_M := (yX0_passage, cX0_passage, 10, (some .int))
theorem vX0_passage : lk_cv mX0_passage 3 := ⟨lk_in3 (List.mem_of_getElem? (i := 0) rfl) rfl, lk_in3 (List.mem_of_getElem? (i := 1) rfl) rfl, lk_in1 (List.mem_of_getElem? (i := 2) rfl) rfl, lk_in3 (List.mem_of_getElem? (i := 2) rfl) rfl, ⟨by decide +kernel, by decide +kernel, by decide +kernel⟩, by decide⟩
abbrev mX0_travel : lk_M := (yX0_travel, cX0_travel, 6, (some .int))
theorem vX0_travel : lk_cv mX0_travel 3 := ⟨lk_in3 (List.mem_of_getElem? (i := 35) rfl) rfl, lk_in3 (List.mem_of_getElem? (i := 36) rfl) rfl, lk_in1 (List.mem_of_getElem? (i := 2) rfl) rfl, lk_in3 (List.mem_of_getElem? (i := 37) rfl) rfl, ⟨by decide +kernel, by decide +kernel, by decide +kernel⟩, by decide⟩
abbrev mX0_loseAndGain : lk_M := (yX0_loseAndGain, cX0_loseAndGain, 2, none)
theorem vX0_loseAndGain : lk_cv mX0_loseAndGain 0 := ⟨lk_in3 (List.mem_of_getElem? (i := 201) rfl) rfl, lk_inS (List.mem_of_getElem? (i := 20) rfl) rfl, lk_in1 (List.mem_of_getElem? (i := 2) rfl) rfl, lk_in3 (List.mem_of_getElem? (i := 202) rfl) rfl, ⟨by decide +kernel, by decide +kernel, by decide +kernel⟩, by decide⟩
abbrev mX0_wholeDay : lk_M := (yX0_wholeDay, cX0_wholeDay, 7, (some .int))
theorem vX0_wholeDay : lk_cv mX0_wholeDay 2 := ⟨lk_in3 (List.mem_of_getElem? (i := 196) rfl) rfl, lk_in3 (List.mem_of_getElem? (i := 197) rfl) rfl, lk_in1 (List.mem_of_getElem? (i := 2) rfl) rfl, lk_in3 (List.mem_of_getElem? (i := 198) rfl) rfl, ⟨by decide +kernel, by decide +kernel, by decide +kernel⟩, by decide⟩
abbrev mX0_summitWater : lk_M := (yX0_summitWater, cX0_summitWater, 1, (some .int))
theorem vX0_summitWater : lk_cv mX0_summitWater 0 := ⟨lk_in3 (List.mem_of_getElem? (i := 55) rfl) rfl, lk_in3 (List.mem_of_getElem? (i := 56) rfl) rfl, lk_in1 (List.mem_of_getElem? (i := 2) rfl) rfl, lk_in3 (List.mem_of_getElem? (i := 57) rfl) rfl, ⟨by decide +kernel, by decide +kernel, by decide +kernel⟩, by decide⟩
abbrev mX0_allWater : lk_M := (yX0_allWater, cX0_allWater, 3, (some .int))
theorem vX0_allWater : lk_cv mX0_allWater 0 := ⟨lk_in3 (List.mem_of_getElem? (i := 225) rfl) rfl, lk_in3 (List.mem_of_getElem? (i := 226) rfl) rfl, lk_in1 (List.mem_of_getElem? (i := 2) rfl) rfl, lk_in3 (List.mem_of_getElem? (i := 227) rfl) rfl, ⟨by decide +kernel, by decide +kernel, by decide +kernel⟩, by decide⟩
abbrev mX0_leastLevelOver : lk_M := (yX0_leastLevelOver, cX0_leastLevelOver, 4, (some .int))
theorem vX0_leastLevelOver : lk_cv mX0_leastLevelOver 1 := ⟨lk_in3 (List.mem_of_getElem? (i := 233) rfl) rfl, lk_in3 (List.mem_of_getElem? (i := 234) rfl) rfl, lk_in1 (List.mem_of_getElem? (i := 2) rfl) rfl, lk_in3 (List.mem_of_getElem? (i := 235) rfl) rfl, ⟨by decide +kernel, by decide +kernel, by decide +kernel⟩, by decide⟩
abbrev mX0_fullLocks : lk_M := (yX0_fullLocks, cX0_fullLocks, 3, (some .int))
theorem vX0_fullLocks : lk_cv mX0_fullLocks 0 := ⟨lk_in4 (List.mem_of_getElem? (i := 36) rfl) rfl, lk_in4 (List.mem_of_getElem? (i := 37) rfl) rfl, lk_in1 (List.mem_of_getElem? (i := 2) rfl) rfl, lk_in4 (List.mem_of_getElem? (i := 38) rfl) rfl, ⟨by decide +kernel, by decide +kernel, by decide +kernel⟩, by decide⟩
abbrev mX1_number : lk_M := (yX1_number, cX1_number, 2, (some .int))
theorem vX1_number : lk_cv mX1_number 1 := ⟨lk_in3 (List.mem_of_getElem? (i := 63) rfl) rfl, lk_in3 (List.mem_of_getElem? (i := 64) rfl) rfl, lk_in1 (List.mem_of_getElem? (i := 4) rfl) rfl, lk_in3 (List.mem_of_getElem? (i := 65) rfl) rfl, ⟨by decide +kernel, by decide +kernel, by decide +kernel⟩, by decide⟩
abbrev mX2_copyFrom : lk_M := (yX2_copyFrom, cX2_copyFrom, 3, none)
theorem vX2_copyFrom : lk_cv mX2_copyFrom 1 := ⟨lk_in2 (List.mem_of_getElem? (i := 137) rfl) rfl, lk_in2 (List.mem_of_getElem? (i := 138) rfl) rfl, lk_in1 (List.mem_of_getElem? (i := 5) rfl) rfl, lk_in2 (List.mem_of_getElem? (i := 139) rfl) rfl, ⟨by decide +kernel, by decide +kernel, by decide +kernel⟩, by decide⟩
abbrev mX2_has : lk_M := (yX2_has, cX2_has, 2, (some .boolean))
theorem vX2_has : lk_cv mX2_has 1 := ⟨lk_in2 (List.mem_of_getElem? (i := 192) rfl) rfl, lk_in2 (List.mem_of_getElem? (i := 193) rfl) rfl, lk_in1 (List.mem_of_getElem? (i := 5) rfl) rfl, lk_in2 (List.mem_of_getElem? (i := 194) rfl) rfl, ⟨by decide +kernel, by decide +kernel, by decide +kernel⟩, by decide⟩
abbrev mX2_numberOf : lk_M := (yX2_numberOf, cX2_numberOf, 3, (some .int))
theorem vX2_numberOf : lk_cv mX2_numberOf 1 := ⟨lk_in2 (List.mem_of_getElem? (i := 215) rfl) rfl, lk_in2 (List.mem_of_getElem? (i := 216) rfl) rfl, lk_in1 (List.mem_of_getElem? (i := 5) rfl) rfl, lk_in2 (List.mem_of_getElem? (i := 217) rfl) rfl, ⟨by decide +kernel, by decide +kernel, by decide +kernel⟩, by decide⟩
abbrev mX2_copyRow : lk_M := (yX2_copyRow, cX2_copyRow, 3, none)
theorem vX2_copyRow : lk_cv mX2_copyRow 2 := ⟨lk_in2 (List.mem_of_getElem? (i := 173) rfl) rfl, lk_inS (List.mem_of_getElem? (i := 5) rfl) rfl, lk_in1 (List.mem_of_getElem? (i := 5) rfl) rfl, lk_in2 (List.mem_of_getElem? (i := 174) rfl) rfl, ⟨by decide +kernel, by decide +kernel, by decide +kernel⟩, by decide⟩
abbrev mX2_placeFor : lk_M := (yX2_placeFor, cX2_placeFor, 4, (some .int))
theorem vX2_placeFor : lk_cv mX2_placeFor 1 := ⟨lk_in2 (List.mem_of_getElem? (i := 169) rfl) rfl, lk_inS (List.mem_of_getElem? (i := 4) rfl) rfl, lk_in1 (List.mem_of_getElem? (i := 5) rfl) rfl, lk_in2 (List.mem_of_getElem? (i := 170) rfl) rfl, ⟨by decide +kernel, by decide +kernel, by decide +kernel⟩, by decide⟩
abbrev mX2_put : lk_M := (yX2_put, cX2_put, 3, none)
theorem vX2_put : lk_cv mX2_put 1 := ⟨lk_in2 (List.mem_of_getElem? (i := 164) rfl) rfl, lk_in2 (List.mem_of_getElem? (i := 165) rfl) rfl, lk_in1 (List.mem_of_getElem? (i := 5) rfl) rfl, lk_in2 (List.mem_of_getElem? (i := 166) rfl) rfl, ⟨by decide +kernel, by decide +kernel, by decide +kernel⟩, by decide⟩
abbrev mX2_remove : lk_M := (yX2_remove, cX2_remove, 3, none)
theorem vX2_remove : lk_cv mX2_remove 1 := ⟨lk_in2 (List.mem_of_getElem? (i := 223) rfl) rfl, lk_in2 (List.mem_of_getElem? (i := 224) rfl) rfl, lk_in1 (List.mem_of_getElem? (i := 5) rfl) rfl, lk_in2 (List.mem_of_getElem? (i := 225) rfl) rfl, ⟨by decide +kernel, by decide +kernel, by decide +kernel⟩, by decide⟩
abbrev mX2_moveOn : lk_M := (yX2_moveOn, cX2_moveOn, 3, none)
theorem vX2_moveOn : lk_cv mX2_moveOn 2 := ⟨lk_in3 (List.mem_of_getElem? (i := 27) rfl) rfl, lk_in3 (List.mem_of_getElem? (i := 28) rfl) rfl, lk_in1 (List.mem_of_getElem? (i := 5) rfl) rfl, lk_in3 (List.mem_of_getElem? (i := 29) rfl) rfl, ⟨by decide +kernel, by decide +kernel, by decide +kernel⟩, by decide⟩
abbrev mX2_sizeOf : lk_M := (yX2_sizeOf, cX2_sizeOf, 2, (some .int))
theorem vX2_sizeOf : lk_cv mX2_sizeOf 1 := ⟨lk_in3 (List.mem_of_getElem? (i := 128) rfl) rfl, lk_in3 (List.mem_of_getElem? (i := 129) rfl) rfl, lk_in1 (List.mem_of_getElem? (i := 5) rfl) rfl, lk_in3 (List.mem_of_getElem? (i := 130) rfl) rfl, ⟨by decide +kernel, by decide +kernel, by decide +kernel⟩, by decide⟩
abbrev mX2_rankOf : lk_M := (yX2_rankOf, cX2_rankOf, 2, (some .int))
theorem vX2_rankOf : lk_cv mX2_rankOf 1 := ⟨lk_in3 (List.mem_of_getElem? (i := 83) rfl) rfl, lk_in3 (List.mem_of_getElem? (i := 84) rfl) rfl, lk_in1 (List.mem_of_getElem? (i := 5) rfl) rfl, lk_in3 (List.mem_of_getElem? (i := 85) rfl) rfl, ⟨by decide +kernel, by decide +kernel, by decide +kernel⟩, by decide⟩
abbrev mX2_countIn : lk_M := (yX2_countIn, cX2_countIn, 4, (some .int))
theorem vX2_countIn : lk_cv mX2_countIn 1 := ⟨lk_in2 (List.mem_of_getElem? (i := 113) rfl) rfl, lk_in2 (List.mem_of_getElem? (i := 114) rfl) rfl, lk_in1 (List.mem_of_getElem? (i := 5) rfl) rfl, lk_in2 (List.mem_of_getElem? (i := 115) rfl) rfl, ⟨by decide +kernel, by decide +kernel, by decide +kernel⟩, by decide⟩
abbrev mX2_letter : lk_M := (yX2_letter, cX2_letter, 5, (some .int))
theorem vX2_letter : lk_cv mX2_letter 2 := ⟨lk_in2 (List.mem_of_getElem? (i := 204) rfl) rfl, lk_in2 (List.mem_of_getElem? (i := 205) rfl) rfl, lk_in1 (List.mem_of_getElem? (i := 5) rfl) rfl, lk_in2 (List.mem_of_getElem? (i := 206) rfl) rfl, ⟨by decide +kernel, by decide +kernel, by decide +kernel⟩, by decide⟩
abbrev mX2_letterCount : lk_M := (yX2_letterCount, cX2_letterCount, 3, (some .int))
theorem vX2_letterCount : lk_cv mX2_letterCount 1 := ⟨lk_in2 (List.mem_of_getElem? (i := 201) rfl) rfl, lk_inS (List.mem_of_getElem? (i := 7) rfl) rfl, lk_in1 (List.mem_of_getElem? (i := 5) rfl) rfl, lk_in2 (List.mem_of_getElem? (i := 202) rfl) rfl, ⟨by decide +kernel, by decide +kernel, by decide +kernel⟩, by decide⟩
abbrev mX2_number : lk_M := (yX2_number, cX2_number, 3, (some .int))
theorem vX2_number : lk_cv mX2_number 2 := ⟨lk_in2 (List.mem_of_getElem? (i := 196) rfl) rfl, lk_in2 (List.mem_of_getElem? (i := 197) rfl) rfl, lk_in1 (List.mem_of_getElem? (i := 5) rfl) rfl, lk_in2 (List.mem_of_getElem? (i := 198) rfl) rfl, ⟨by decide +kernel, by decide +kernel, by decide +kernel⟩, by decide⟩
abbrev mX3_boatAt : lk_M := (yX3_boatAt, cX3_boatAt, 2, (some .int))
theorem vX3_boatAt : lk_cv mX3_boatAt 1 := ⟨lk_in3 (List.mem_of_getElem? (i := 87) rfl) rfl, lk_in3 (List.mem_of_getElem? (i := 88) rfl) rfl, lk_in1 (List.mem_of_getElem? (i := 7) rfl) rfl, lk_in3 (List.mem_of_getElem? (i := 89) rfl) rfl, ⟨by decide +kernel, by decide +kernel, by decide +kernel⟩, by decide⟩
abbrev mX3_join : lk_M := (yX3_join, cX3_join, 4, none)
theorem vX3_join : lk_cv mX3_join 2 := ⟨lk_in3 (List.mem_of_getElem? (i := 80) rfl) rfl, lk_inS (List.mem_of_getElem? (i := 13) rfl) rfl, lk_in1 (List.mem_of_getElem? (i := 7) rfl) rfl, lk_in3 (List.mem_of_getElem? (i := 81) rfl) rfl, ⟨by decide +kernel, by decide +kernel, by decide +kernel⟩, by decide⟩
abbrev mX3_gather : lk_M := (yX3_gather, cX3_gather, 5, none)
theorem vX3_gather : lk_cv mX3_gather 3 := ⟨lk_in3 (List.mem_of_getElem? (i := 75) rfl) rfl, lk_in3 (List.mem_of_getElem? (i := 76) rfl) rfl, lk_in1 (List.mem_of_getElem? (i := 7) rfl) rfl, lk_in3 (List.mem_of_getElem? (i := 77) rfl) rfl, ⟨by decide +kernel, by decide +kernel, by decide +kernel⟩, by decide⟩
abbrev mX4_done : lk_M := (yX4_done, cX4_done, 1, (some .int))
theorem vX4_done : lk_cv mX4_done 0 := ⟨lk_in3 (List.mem_of_getElem? (i := 173) rfl) rfl, lk_in3 (List.mem_of_getElem? (i := 174) rfl) rfl, lk_in1 (List.mem_of_getElem? (i := 8) rfl) rfl, lk_in3 (List.mem_of_getElem? (i := 175) rfl) rfl, ⟨by decide +kernel, by decide +kernel, by decide +kernel⟩, by decide⟩
abbrev mX4_isAhead : lk_M := (yX4_isAhead, cX4_isAhead, 5, (some .boolean))
theorem vX4_isAhead : lk_cs mX4_isAhead 3 := ⟨lk_in3 (List.mem_of_getElem? (i := 166) rfl) rfl, lk_in1 (List.mem_of_getElem? (i := 8) rfl) rfl, lk_in3 (List.mem_of_getElem? (i := 167) rfl) rfl, ⟨by decide +kernel, by decide +kernel, by decide +kernel⟩, by decide⟩
abbrev mX4_isFromBelowNext : lk_M := (yX4_isFromBelowNext, cX4_isFromBelowNext, 6, (some .boolean))
theorem vX4_isFromBelowNext : lk_cv mX4_isFromBelowNext 5 := ⟨lk_in3 (List.mem_of_getElem? (i := 162) rfl) rfl, lk_inS (List.mem_of_getElem? (i := 18) rfl) rfl, lk_in1 (List.mem_of_getElem? (i := 8) rfl) rfl, lk_in3 (List.mem_of_getElem? (i := 163) rfl) rfl, ⟨by decide +kernel, by decide +kernel, by decide +kernel⟩, by decide⟩
abbrev mX4_go : lk_M := (yX4_go, cX4_go, 12, none)
theorem vX4_go : lk_cv mX4_go 6 := ⟨lk_in3 (List.mem_of_getElem? (i := 156) rfl) rfl, lk_in3 (List.mem_of_getElem? (i := 157) rfl) rfl, lk_in1 (List.mem_of_getElem? (i := 8) rfl) rfl, lk_in3 (List.mem_of_getElem? (i := 158) rfl) rfl, ⟨by decide +kernel, by decide +kernel, by decide +kernel⟩, by decide⟩
abbrev mX5_unlike : lk_M := (yX5_unlike, cX5_unlike, 3, (some .int))
theorem vX5_unlike : lk_cv mX5_unlike 0 := ⟨lk_in4 (List.mem_of_getElem? (i := 5) rfl) rfl, lk_in4 (List.mem_of_getElem? (i := 6) rfl) rfl, lk_in1 (List.mem_of_getElem? (i := 3) rfl) rfl, lk_in4 (List.mem_of_getElem? (i := 7) rfl) rfl, ⟨by decide +kernel, by decide +kernel, by decide +kernel⟩, by decide⟩
abbrev mX5_upTo : lk_M := (yX5_upTo, cX5_upTo, 4, (some .int))
theorem vX5_upTo : lk_cv mX5_upTo 1 := ⟨lk_in4 (List.mem_of_getElem? (i := 1) rfl) rfl, lk_in4 (List.mem_of_getElem? (i := 2) rfl) rfl, lk_in1 (List.mem_of_getElem? (i := 3) rfl) rfl, lk_in4 (List.mem_of_getElem? (i := 3) rfl) rfl, ⟨by decide +kernel, by decide +kernel, by decide +kernel⟩, by decide⟩
abbrev mX5_row : lk_M := (yX5_row, cX5_row, 5, (some .int))
theorem vX5_row : lk_cv mX5_row 2 := ⟨lk_in4 (List.mem_of_getElem? (i := 9) rfl) rfl, lk_in4 (List.mem_of_getElem? (i := 10) rfl) rfl, lk_in1 (List.mem_of_getElem? (i := 3) rfl) rfl, lk_in4 (List.mem_of_getElem? (i := 11) rfl) rfl, ⟨by decide +kernel, by decide +kernel, by decide +kernel⟩, by decide⟩
abbrev mX6_append : lk_M := (yX6_append, cX6_append, 2, (some .boolean))
theorem vX6_append : lk_cv mX6_append 1 := ⟨lk_in2 (List.mem_of_getElem? (i := 125) rfl) rfl, lk_in2 (List.mem_of_getElem? (i := 126) rfl) rfl, lk_in1 (List.mem_of_getElem? (i := 6) rfl) rfl, lk_in2 (List.mem_of_getElem? (i := 127) rfl) rfl, ⟨by decide +kernel, by decide +kernel, by decide +kernel⟩, by decide⟩
abbrev mX6_current : lk_M := (yX6_current, cX6_current, 1, (some .int))
theorem vX6_current : lk_cv mX6_current 0 := ⟨lk_in2 (List.mem_of_getElem? (i := 153) rfl) rfl, lk_inS (List.mem_of_getElem? (i := 1) rfl) rfl, lk_in1 (List.mem_of_getElem? (i := 6) rfl) rfl, lk_in2 (List.mem_of_getElem? (i := 154) rfl) rfl, ⟨by decide +kernel, by decide +kernel, by decide +kernel⟩, by decide⟩
abbrev mX6_isAtEnd : lk_M := (yX6_isAtEnd, cX6_isAtEnd, 1, (some .boolean))
theorem vX6_isAtEnd : lk_cv mX6_isAtEnd 0 := ⟨lk_in2 (List.mem_of_getElem? (i := 176) rfl) rfl, lk_in2 (List.mem_of_getElem? (i := 177) rfl) rfl, lk_in1 (List.mem_of_getElem? (i := 6) rfl) rfl, lk_in2 (List.mem_of_getElem? (i := 178) rfl) rfl, ⟨by decide +kernel, by decide +kernel, by decide +kernel⟩, by decide⟩
abbrev mX6_readName : lk_M := (yX6_readName, cX6_readName, 5, (some .int))
theorem vX6_readName : lk_cv mX6_readName 0 := ⟨lk_in2 (List.mem_of_getElem? (i := 148) rfl) rfl, lk_in2 (List.mem_of_getElem? (i := 149) rfl) rfl, lk_in1 (List.mem_of_getElem? (i := 6) rfl) rfl, lk_in2 (List.mem_of_getElem? (i := 150) rfl) rfl, ⟨by decide +kernel, by decide +kernel, by decide +kernel⟩, by decide⟩
abbrev mX6_readWay : lk_M := (yX6_readWay, cX6_readWay, 2, (some .boolean))
theorem vX6_readWay : lk_cv mX6_readWay 0 := ⟨lk_in2 (List.mem_of_getElem? (i := 157) rfl) rfl, lk_inS (List.mem_of_getElem? (i := 2) rfl) rfl, lk_in1 (List.mem_of_getElem? (i := 6) rfl) rfl, lk_in2 (List.mem_of_getElem? (i := 158) rfl) rfl, ⟨by decide +kernel, by decide +kernel, by decide +kernel⟩, by decide⟩
abbrev mX6_readFigure : lk_M := (yX6_readFigure, cX6_readFigure, 3, (some .int))
theorem vX6_readFigure : lk_cv mX6_readFigure 1 := ⟨lk_in2 (List.mem_of_getElem? (i := 161) rfl) rfl, lk_inS (List.mem_of_getElem? (i := 3) rfl) rfl, lk_in1 (List.mem_of_getElem? (i := 6) rfl) rfl, lk_in2 (List.mem_of_getElem? (i := 162) rfl) rfl, ⟨by decide +kernel, by decide +kernel, by decide +kernel⟩, by decide⟩
abbrev mX6_readBoat : lk_M := (yX6_readBoat, cX6_readBoat, 2, (some .boolean))
theorem vX6_readBoat : lk_cv mX6_readBoat 1 := ⟨lk_in2 (List.mem_of_getElem? (i := 144) rfl) rfl, lk_in2 (List.mem_of_getElem? (i := 145) rfl) rfl, lk_in1 (List.mem_of_getElem? (i := 6) rfl) rfl, lk_in2 (List.mem_of_getElem? (i := 146) rfl) rfl, ⟨by decide +kernel, by decide +kernel, by decide +kernel⟩, by decide⟩
abbrev mX6_readComma : lk_M := (yX6_readComma, cX6_readComma, 1, (some .boolean))
theorem vX6_readComma : lk_cv mX6_readComma 0 := ⟨lk_in2 (List.mem_of_getElem? (i := 184) rfl) rfl, lk_in2 (List.mem_of_getElem? (i := 185) rfl) rfl, lk_in1 (List.mem_of_getElem? (i := 6) rfl) rfl, lk_in2 (List.mem_of_getElem? (i := 186) rfl) rfl, ⟨by decide +kernel, by decide +kernel, by decide +kernel⟩, by decide⟩
abbrev mX7_begin : lk_M := (yX7_begin, cX7_begin, 3, none)
theorem vX7_begin : lk_cv mX7_begin 2 := ⟨lk_in3 (List.mem_of_getElem? (i := 99) rfl) rfl, lk_in3 (List.mem_of_getElem? (i := 100) rfl) rfl, lk_in1 (List.mem_of_getElem? (i := 9) rfl) rfl, lk_in3 (List.mem_of_getElem? (i := 101) rfl) rfl, ⟨by decide +kernel, by decide +kernel, by decide +kernel⟩, by decide⟩
abbrev mJ6_bitCount_0f7a4 : lk_M := (yJ6_bitCount_0f7a4, cJ6_bitCount_0f7a4, 1, (some .int))
theorem vJ6_bitCount_0f7a4 : lk_cs mJ6_bitCount_0f7a4 1 := ⟨lk_in3 (List.mem_of_getElem? (i := 110) rfl) rfl, lk_in1 (List.mem_of_getElem? (i := 13) rfl) rfl, lk_in3 (List.mem_of_getElem? (i := 111) rfl) rfl, ⟨by decide +kernel, by decide +kernel, by decide +kernel⟩, by decide⟩
abbrev mX7_isOrder : lk_M := (yX7_isOrder, cX7_isOrder, 2, (some .boolean))
theorem vX7_isOrder : lk_cv mX7_isOrder 1 := ⟨lk_in3 (List.mem_of_getElem? (i := 106) rfl) rfl, lk_in3 (List.mem_of_getElem? (i := 107) rfl) rfl, lk_in1 (List.mem_of_getElem? (i := 9) rfl) rfl, lk_in3 (List.mem_of_getElem? (i := 108) rfl) rfl, ⟨by decide +kernel, by decide +kernel, by decide +kernel⟩, by decide⟩
abbrev mX7_isFromBelow : lk_M := (yX7_isFromBelow, cX7_isFromBelow, 3, (some .boolean))
theorem vX7_isFromBelow : lk_cv mX7_isFromBelow 2 := ⟨lk_in3 (List.mem_of_getElem? (i := 124) rfl) rfl, lk_in3 (List.mem_of_getElem? (i := 125) rfl) rfl, lk_in1 (List.mem_of_getElem? (i := 9) rfl) rfl, lk_in3 (List.mem_of_getElem? (i := 126) rfl) rfl, ⟨by decide +kernel, by decide +kernel, by decide +kernel⟩, by decide⟩
abbrev mX7_weigh : lk_M := (yX7_weigh, cX7_weigh, 3, none)
theorem vX7_weigh : lk_cv mX7_weigh 2 := ⟨lk_in3 (List.mem_of_getElem? (i := 132) rfl) rfl, lk_in3 (List.mem_of_getElem? (i := 133) rfl) rfl, lk_in1 (List.mem_of_getElem? (i := 9) rfl) rfl, lk_in3 (List.mem_of_getElem? (i := 134) rfl) rfl, ⟨by decide +kernel, by decide +kernel, by decide +kernel⟩, by decide⟩
abbrev mX8_locks : lk_M := (yX8_locks, cX8_locks, 3, (some .int))
theorem vX8_locks : lk_cv mX8_locks 1 := ⟨lk_in2 (List.mem_of_getElem? (i := 59) rfl) rfl, lk_in2 (List.mem_of_getElem? (i := 60) rfl) rfl, lk_in1 (List.mem_of_getElem? (i := 1) rfl) rfl, lk_in2 (List.mem_of_getElem? (i := 61) rfl) rfl, ⟨by decide +kernel, by decide +kernel, by decide +kernel⟩, by decide⟩
abbrev mX8_isLockSetting : lk_M := (yX8_isLockSetting, cX8_isLockSetting, 2, (some .boolean))
theorem vX8_isLockSetting : lk_cs mX8_isLockSetting 2 := ⟨lk_in2 (List.mem_of_getElem? (i := 71) rfl) rfl, lk_in1 (List.mem_of_getElem? (i := 1) rfl) rfl, lk_in2 (List.mem_of_getElem? (i := 72) rfl) rfl, ⟨by decide +kernel, by decide +kernel, by decide +kernel⟩, by decide⟩
abbrev mX8_lock : lk_M := (yX8_lock, cX8_lock, 5, (some .int))
theorem vX8_lock : lk_cv mX8_lock 3 := ⟨lk_in2 (List.mem_of_getElem? (i := 63) rfl) rfl, lk_in2 (List.mem_of_getElem? (i := 64) rfl) rfl, lk_in1 (List.mem_of_getElem? (i := 1) rfl) rfl, lk_in2 (List.mem_of_getElem? (i := 65) rfl) rfl, ⟨by decide +kernel, by decide +kernel, by decide +kernel⟩, by decide⟩
abbrev mX8_ofLock : lk_M := (yX8_ofLock, cX8_ofLock, 3, (some .int))
theorem vX8_ofLock : lk_cv mX8_ofLock 2 := ⟨lk_in2 (List.mem_of_getElem? (i := 86) rfl) rfl, lk_in2 (List.mem_of_getElem? (i := 87) rfl) rfl, lk_in1 (List.mem_of_getElem? (i := 1) rfl) rfl, lk_in2 (List.mem_of_getElem? (i := 88) rfl) rfl, ⟨by decide +kernel, by decide +kernel, by decide +kernel⟩, by decide⟩
abbrev mX8_isReachSetting : lk_M := (yX8_isReachSetting, cX8_isReachSetting, 2, (some .boolean))
theorem vX8_isReachSetting : lk_cs mX8_isReachSetting 2 := ⟨lk_in2 (List.mem_of_getElem? (i := 98) rfl) rfl, lk_in1 (List.mem_of_getElem? (i := 1) rfl) rfl, lk_in2 (List.mem_of_getElem? (i := 99) rfl) rfl, ⟨by decide +kernel, by decide +kernel, by decide +kernel⟩, by decide⟩
abbrev mX8_reach : lk_M := (yX8_reach, cX8_reach, 8, (some .int))
theorem vX8_reach : lk_cv mX8_reach 3 := ⟨lk_in2 (List.mem_of_getElem? (i := 90) rfl) rfl, lk_in2 (List.mem_of_getElem? (i := 91) rfl) rfl, lk_in1 (List.mem_of_getElem? (i := 1) rfl) rfl, lk_in2 (List.mem_of_getElem? (i := 92) rfl) rfl, ⟨by decide +kernel, by decide +kernel, by decide +kernel⟩, by decide⟩
abbrev mX8_ofReach : lk_M := (yX8_ofReach, cX8_ofReach, 3, (some .int))
theorem vX8_ofReach : lk_cv mX8_ofReach 2 := ⟨lk_in2 (List.mem_of_getElem? (i := 109) rfl) rfl, lk_in2 (List.mem_of_getElem? (i := 110) rfl) rfl, lk_in1 (List.mem_of_getElem? (i := 1) rfl) rfl, lk_in2 (List.mem_of_getElem? (i := 111) rfl) rfl, ⟨by decide +kernel, by decide +kernel, by decide +kernel⟩, by decide⟩
abbrev mX8_feeds : lk_M := (yX8_feeds, cX8_feeds, 3, (some .int))
theorem vX8_feeds : lk_cv mX8_feeds 1 := ⟨lk_in2 (List.mem_of_getElem? (i := 117) rfl) rfl, lk_in2 (List.mem_of_getElem? (i := 118) rfl) rfl, lk_in1 (List.mem_of_getElem? (i := 1) rfl) rfl, lk_in2 (List.mem_of_getElem? (i := 119) rfl) rfl, ⟨by decide +kernel, by decide +kernel, by decide +kernel⟩, by decide⟩
abbrev mX8_feed : lk_M := (yX8_feed, cX8_feed, 2, (some .int))
theorem vX8_feed : lk_cv mX8_feed 1 := ⟨lk_in2 (List.mem_of_getElem? (i := 121) rfl) rfl, lk_in2 (List.mem_of_getElem? (i := 122) rfl) rfl, lk_in1 (List.mem_of_getElem? (i := 1) rfl) rfl, lk_in2 (List.mem_of_getElem? (i := 123) rfl) rfl, ⟨by decide +kernel, by decide +kernel, by decide +kernel⟩, by decide⟩
abbrev mX8_takeFleetInThought : lk_M := (yX8_takeFleetInThought, cX8_takeFleetInThought, 2, (some .int))
theorem vX8_takeFleetInThought : lk_cv mX8_takeFleetInThought 1 := ⟨lk_in2 (List.mem_of_getElem? (i := 181) rfl) rfl, lk_inS (List.mem_of_getElem? (i := 6) rfl) rfl, lk_in1 (List.mem_of_getElem? (i := 1) rfl) rfl, lk_in2 (List.mem_of_getElem? (i := 182) rfl) rfl, ⟨by decide +kernel, by decide +kernel, by decide +kernel⟩, by decide⟩
abbrev mX8_readBoats : lk_M := (yX8_readBoats, cX8_readBoats, 2, (some .int))
theorem vX8_readBoats : lk_cv mX8_readBoats 0 := ⟨lk_in2 (List.mem_of_getElem? (i := 134) rfl) rfl, lk_inS (List.mem_of_getElem? (i := 0) rfl) rfl, lk_in1 (List.mem_of_getElem? (i := 1) rfl) rfl, lk_in2 (List.mem_of_getElem? (i := 135) rfl) rfl, ⟨by decide +kernel, by decide +kernel, by decide +kernel⟩, by decide⟩
abbrev mX8_boats : lk_M := (yX8_boats, cX8_boats, 2, (some .int))
theorem vX8_boats : lk_cv mX8_boats 0 := ⟨lk_in2 (List.mem_of_getElem? (i := 129) rfl) rfl, lk_in2 (List.mem_of_getElem? (i := 130) rfl) rfl, lk_in1 (List.mem_of_getElem? (i := 1) rfl) rfl, lk_in2 (List.mem_of_getElem? (i := 131) rfl) rfl, ⟨by decide +kernel, by decide +kernel, by decide +kernel⟩, by decide⟩
abbrev mX8_boat : lk_M := (yX8_boat, cX8_boat, 3, (some .int))
theorem vX8_boat : lk_cv mX8_boat 2 := ⟨lk_in2 (List.mem_of_getElem? (i := 188) rfl) rfl, lk_in2 (List.mem_of_getElem? (i := 189) rfl) rfl, lk_in1 (List.mem_of_getElem? (i := 1) rfl) rfl, lk_in2 (List.mem_of_getElem? (i := 190) rfl) rfl, ⟨by decide +kernel, by decide +kernel, by decide +kernel⟩, by decide⟩
abbrev mX8_find : lk_M := (yX8_find, cX8_find, 3, (some .int))
theorem vX8_find : lk_cv mX8_find 0 := ⟨lk_in2 (List.mem_of_getElem? (i := 210) rfl) rfl, lk_in2 (List.mem_of_getElem? (i := 211) rfl) rfl, lk_in1 (List.mem_of_getElem? (i := 1) rfl) rfl, lk_in2 (List.mem_of_getElem? (i := 212) rfl) rfl, ⟨by decide +kernel, by decide +kernel, by decide +kernel⟩, by decide⟩
abbrev mX8_leaves : lk_M := (yX8_leaves, cX8_leaves, 2, (some .int))
theorem vX8_leaves : lk_cv mX8_leaves 1 := ⟨lk_in2 (List.mem_of_getElem? (i := 219) rfl) rfl, lk_in2 (List.mem_of_getElem? (i := 220) rfl) rfl, lk_in1 (List.mem_of_getElem? (i := 1) rfl) rfl, lk_in2 (List.mem_of_getElem? (i := 221) rfl) rfl, ⟨by decide +kernel, by decide +kernel, by decide +kernel⟩, by decide⟩
abbrev mX8_about : lk_M := (yX8_about, cX8_about, 2, (some .int))
theorem vX8_about : lk_cv mX8_about 1 := ⟨lk_in2 (List.mem_of_getElem? (i := 227) rfl) rfl, lk_in2 (List.mem_of_getElem? (i := 228) rfl) rfl, lk_in1 (List.mem_of_getElem? (i := 1) rfl) rfl, lk_in2 (List.mem_of_getElem? (i := 229) rfl) rfl, ⟨by decide +kernel, by decide +kernel, by decide +kernel⟩, by decide⟩
abbrev mX8_pass : lk_M := (yX8_pass, cX8_pass, 5, (some .int))
theorem vX8_pass : lk_cv mX8_pass 1 := ⟨lk_in2 (List.mem_of_getElem? (i := 231) rfl) rfl, lk_in2 (List.mem_of_getElem? (i := 232) rfl) rfl, lk_in1 (List.mem_of_getElem? (i := 1) rfl) rfl, lk_in2 (List.mem_of_getElem? (i := 233) rfl) rfl, ⟨by decide +kernel, by decide +kernel, by decide +kernel⟩, by decide⟩
abbrev mX8_through : lk_M := (yX8_through, cX8_through, 3, (some .int))
theorem vX8_through : lk_cv mX8_through 1 := ⟨lk_in3 (List.mem_of_getElem? (i := 31) rfl) rfl, lk_in3 (List.mem_of_getElem? (i := 32) rfl) rfl, lk_in1 (List.mem_of_getElem? (i := 1) rfl) rfl, lk_in3 (List.mem_of_getElem? (i := 33) rfl) rfl, ⟨by decide +kernel, by decide +kernel, by decide +kernel⟩, by decide⟩
abbrev mX8_costs : lk_M := (yX8_costs, cX8_costs, 2, (some .int))
theorem vX8_costs : lk_cv mX8_costs 1 := ⟨lk_in3 (List.mem_of_getElem? (i := 41) rfl) rfl, lk_in3 (List.mem_of_getElem? (i := 42) rfl) rfl, lk_in1 (List.mem_of_getElem? (i := 1) rfl) rfl, lk_in3 (List.mem_of_getElem? (i := 43) rfl) rfl, ⟨by decide +kernel, by decide +kernel, by decide +kernel⟩, by decide⟩
abbrev mX8_why : lk_M := (yX8_why, cX8_why, 2, (some .int))
theorem vX8_why : lk_cv mX8_why 1 := ⟨lk_in3 (List.mem_of_getElem? (i := 59) rfl) rfl, lk_in3 (List.mem_of_getElem? (i := 60) rfl) rfl, lk_in1 (List.mem_of_getElem? (i := 1) rfl) rfl, lk_in3 (List.mem_of_getElem? (i := 61) rfl) rfl, ⟨by decide +kernel, by decide +kernel, by decide +kernel⟩, by decide⟩
abbrev mX8_lineUp : lk_M := (yX8_lineUp, cX8_lineUp, 2, none)
theorem vX8_lineUp : lk_cv mX8_lineUp 1 := ⟨lk_in3 (List.mem_of_getElem? (i := 72) rfl) rfl, lk_inS (List.mem_of_getElem? (i := 12) rfl) rfl, lk_in1 (List.mem_of_getElem? (i := 1) rfl) rfl, lk_in3 (List.mem_of_getElem? (i := 73) rfl) rfl, ⟨by decide +kernel, by decide +kernel, by decide +kernel⟩, by decide⟩
abbrev mX8_queue : lk_M := (yX8_queue, cX8_queue, 3, (some .int))
theorem vX8_queue : lk_cv mX8_queue 2 := ⟨lk_in3 (List.mem_of_getElem? (i := 67) rfl) rfl, lk_in3 (List.mem_of_getElem? (i := 68) rfl) rfl, lk_in1 (List.mem_of_getElem? (i := 1) rfl) rfl, lk_in3 (List.mem_of_getElem? (i := 69) rfl) rfl, ⟨by decide +kernel, by decide +kernel, by decide +kernel⟩, by decide⟩
abbrev mX8_spentByOrder : lk_M := (yX8_spentByOrder, cX8_spentByOrder, 10, (some .int))
theorem vX8_spentByOrder : lk_cv mX8_spentByOrder 2 := ⟨lk_in3 (List.mem_of_getElem? (i := 121) rfl) rfl, lk_inS (List.mem_of_getElem? (i := 15) rfl) rfl, lk_in1 (List.mem_of_getElem? (i := 1) rfl) rfl, lk_in3 (List.mem_of_getElem? (i := 122) rfl) rfl, ⟨by decide +kernel, by decide +kernel, by decide +kernel⟩, by decide⟩
abbrev mX8_weaveOrders : lk_M := (yX8_weaveOrders, cX8_weaveOrders, 4, none)
theorem vX8_weaveOrders : lk_cv mX8_weaveOrders 1 := ⟨lk_in3 (List.mem_of_getElem? (i := 96) rfl) rfl, lk_inS (List.mem_of_getElem? (i := 14) rfl) rfl, lk_in1 (List.mem_of_getElem? (i := 1) rfl) rfl, lk_in3 (List.mem_of_getElem? (i := 97) rfl) rfl, ⟨by decide +kernel, by decide +kernel, by decide +kernel⟩, by decide⟩
abbrev mX8_orders : lk_M := (yX8_orders, cX8_orders, 2, (some .int))
theorem vX8_orders : lk_cv mX8_orders 1 := ⟨lk_in3 (List.mem_of_getElem? (i := 91) rfl) rfl, lk_in3 (List.mem_of_getElem? (i := 92) rfl) rfl, lk_in1 (List.mem_of_getElem? (i := 1) rfl) rfl, lk_in3 (List.mem_of_getElem? (i := 93) rfl) rfl, ⟨by decide +kernel, by decide +kernel, by decide +kernel⟩, by decide⟩
abbrev mX8_boatOfBest : lk_M := (yX8_boatOfBest, cX8_boatOfBest, 5, (some .int))
theorem vX8_boatOfBest : lk_cv mX8_boatOfBest 1 := ⟨lk_in3 (List.mem_of_getElem? (i := 142) rfl) rfl, lk_inS (List.mem_of_getElem? (i := 16) rfl) rfl, lk_in1 (List.mem_of_getElem? (i := 1) rfl) rfl, lk_in3 (List.mem_of_getElem? (i := 143) rfl) rfl, ⟨by decide +kernel, by decide +kernel, by decide +kernel⟩, by decide⟩
abbrev mX8_best : lk_M := (yX8_best, cX8_best, 3, (some .int))
theorem vX8_best : lk_cv mX8_best 2 := ⟨lk_in3 (List.mem_of_getElem? (i := 137) rfl) rfl, lk_in3 (List.mem_of_getElem? (i := 138) rfl) rfl, lk_in1 (List.mem_of_getElem? (i := 1) rfl) rfl, lk_in3 (List.mem_of_getElem? (i := 139) rfl) rfl, ⟨by decide +kernel, by decide +kernel, by decide +kernel⟩, by decide⟩
abbrev mX8_isRule : lk_M := (yX8_isRule, cX8_isRule, 1, (some .boolean))
theorem vX8_isRule : lk_cs mX8_isRule 1 := ⟨lk_in3 (List.mem_of_getElem? (i := 149) rfl) rfl, lk_in1 (List.mem_of_getElem? (i := 1) rfl) rfl, lk_in3 (List.mem_of_getElem? (i := 150) rfl) rfl, ⟨by decide +kernel, by decide +kernel, by decide +kernel⟩, by decide⟩
abbrev mX8_runInThought : lk_M := (yX8_runInThought, cX8_runInThought, 3, none)
theorem vX8_runInThought : lk_cv mX8_runInThought 2 := ⟨lk_in3 (List.mem_of_getElem? (i := 153) rfl) rfl, lk_inS (List.mem_of_getElem? (i := 17) rfl) rfl, lk_in1 (List.mem_of_getElem? (i := 1) rfl) rfl, lk_in3 (List.mem_of_getElem? (i := 154) rfl) rfl, ⟨by decide +kernel, by decide +kernel, by decide +kernel⟩, by decide⟩
abbrev mX8_ruled : lk_M := (yX8_ruled, cX8_ruled, 4, (some .int))
theorem vX8_ruled : lk_cv mX8_ruled 3 := ⟨lk_in3 (List.mem_of_getElem? (i := 145) rfl) rfl, lk_in3 (List.mem_of_getElem? (i := 146) rfl) rfl, lk_in1 (List.mem_of_getElem? (i := 1) rfl) rfl, lk_in3 (List.mem_of_getElem? (i := 147) rfl) rfl, ⟨by decide +kernel, by decide +kernel, by decide +kernel⟩, by decide⟩
abbrev mX8_moveOnFirst : lk_M := (yX8_moveOnFirst, cX8_moveOnFirst, 4, none)
theorem vX8_moveOnFirst : lk_cv mX8_moveOnFirst 2 := ⟨lk_in3 (List.mem_of_getElem? (i := 182) rfl) rfl, lk_inS (List.mem_of_getElem? (i := 19) rfl) rfl, lk_in1 (List.mem_of_getElem? (i := 1) rfl) rfl, lk_in3 (List.mem_of_getElem? (i := 183) rfl) rfl, ⟨by decide +kernel, by decide +kernel, by decide +kernel⟩, by decide⟩
abbrev mX8_run : lk_M := (yX8_run, cX8_run, 3, (some .int))
theorem vX8_run : lk_cv mX8_run 2 := ⟨lk_in3 (List.mem_of_getElem? (i := 177) rfl) rfl, lk_in3 (List.mem_of_getElem? (i := 178) rfl) rfl, lk_in1 (List.mem_of_getElem? (i := 1) rfl) rfl, lk_in3 (List.mem_of_getElem? (i := 179) rfl) rfl, ⟨by decide +kernel, by decide +kernel, by decide +kernel⟩, by decide⟩
abbrev mX8_keeper : lk_M := (yX8_keeper, cX8_keeper, 7, (some .int))
theorem vX8_keeper : lk_cv mX8_keeper 1 := ⟨lk_in3 (List.mem_of_getElem? (i := 185) rfl) rfl, lk_in3 (List.mem_of_getElem? (i := 186) rfl) rfl, lk_in1 (List.mem_of_getElem? (i := 1) rfl) rfl, lk_in3 (List.mem_of_getElem? (i := 187) rfl) rfl, ⟨by decide +kernel, by decide +kernel, by decide +kernel⟩, by decide⟩
abbrev mX8_isTraffic : lk_M := (yX8_isTraffic, cX8_isTraffic, 1, (some .boolean))
theorem vX8_isTraffic : lk_cs mX8_isTraffic 1 := ⟨lk_in3 (List.mem_of_getElem? (i := 193) rfl) rfl, lk_in1 (List.mem_of_getElem? (i := 1) rfl) rfl, lk_in3 (List.mem_of_getElem? (i := 194) rfl) rfl, ⟨by decide +kernel, by decide +kernel, by decide +kernel⟩, by decide⟩
abbrev mX8_day : lk_M := (yX8_day, cX8_day, 3, (some .int))
theorem vX8_day : lk_cv mX8_day 2 := ⟨lk_in3 (List.mem_of_getElem? (i := 189) rfl) rfl, lk_in3 (List.mem_of_getElem? (i := 190) rfl) rfl, lk_in1 (List.mem_of_getElem? (i := 1) rfl) rfl, lk_in3 (List.mem_of_getElem? (i := 191) rfl) rfl, ⟨by decide +kernel, by decide +kernel, by decide +kernel⟩, by decide⟩
abbrev mX8_dry : lk_M := (yX8_dry, cX8_dry, 5, (some .int))
theorem vX8_dry : lk_cv mX8_dry 3 := ⟨lk_in3 (List.mem_of_getElem? (i := 209) rfl) rfl, lk_in3 (List.mem_of_getElem? (i := 210) rfl) rfl, lk_in1 (List.mem_of_getElem? (i := 1) rfl) rfl, lk_in3 (List.mem_of_getElem? (i := 211) rfl) rfl, ⟨by decide +kernel, by decide +kernel, by decide +kernel⟩, by decide⟩
abbrev mX8_summitInThought : lk_M := (yX8_summitInThought, cX8_summitInThought, 5, (some .int))
theorem vX8_summitInThought : lk_cv mX8_summitInThought 3 := ⟨lk_in3 (List.mem_of_getElem? (i := 218) rfl) rfl, lk_inS (List.mem_of_getElem? (i := 21) rfl) rfl, lk_in1 (List.mem_of_getElem? (i := 1) rfl) rfl, lk_in3 (List.mem_of_getElem? (i := 219) rfl) rfl, ⟨by decide +kernel, by decide +kernel, by decide +kernel⟩, by decide⟩
abbrev mX8_pond : lk_M := (yX8_pond, cX8_pond, 8, (some .int))
theorem vX8_pond : lk_cv mX8_pond 3 := ⟨lk_in3 (List.mem_of_getElem? (i := 213) rfl) rfl, lk_in3 (List.mem_of_getElem? (i := 214) rfl) rfl, lk_in1 (List.mem_of_getElem? (i := 1) rfl) rfl, lk_in3 (List.mem_of_getElem? (i := 215) rfl) rfl, ⟨by decide +kernel, by decide +kernel, by decide +kernel⟩, by decide⟩
abbrev mX8_water : lk_M := (yX8_water, cX8_water, 1, (some .int))
theorem vX8_water : lk_cv mX8_water 0 := ⟨lk_in3 (List.mem_of_getElem? (i := 221) rfl) rfl, lk_in3 (List.mem_of_getElem? (i := 222) rfl) rfl, lk_in1 (List.mem_of_getElem? (i := 1) rfl) rfl, lk_in3 (List.mem_of_getElem? (i := 223) rfl) rfl, ⟨by decide +kernel, by decide +kernel, by decide +kernel⟩, by decide⟩
abbrev mX8_levels : lk_M := (yX8_levels, cX8_levels, 4, (some .int))
theorem vX8_levels : lk_cv mX8_levels 1 := ⟨lk_in3 (List.mem_of_getElem? (i := 229) rfl) rfl, lk_in3 (List.mem_of_getElem? (i := 230) rfl) rfl, lk_in1 (List.mem_of_getElem? (i := 1) rfl) rfl, lk_in3 (List.mem_of_getElem? (i := 231) rfl) rfl, ⟨by decide +kernel, by decide +kernel, by decide +kernel⟩, by decide⟩
abbrev mX8_tally : lk_M := (yX8_tally, cX8_tally, 3, (some .int))
theorem vX8_tally : lk_cv mX8_tally 2 := ⟨lk_in3 (List.mem_of_getElem? (i := 237) rfl) rfl, lk_in3 (List.mem_of_getElem? (i := 238) rfl) rfl, lk_in1 (List.mem_of_getElem? (i := 1) rfl) rfl, lk_in3 (List.mem_of_getElem? (i := 239) rfl) rfl, ⟨by decide +kernel, by decide +kernel, by decide +kernel⟩, by decide⟩
abbrev mX8_pays : lk_M := (yX8_pays, cX8_pays, 10, (some .int))
theorem vX8_pays : lk_cv mX8_pays 2 := ⟨lk_in4 (List.mem_of_getElem? (i := 14) rfl) rfl, lk_in4 (List.mem_of_getElem? (i := 15) rfl) rfl, lk_in1 (List.mem_of_getElem? (i := 1) rfl) rfl, lk_in4 (List.mem_of_getElem? (i := 16) rfl) rfl, ⟨by decide +kernel, by decide +kernel, by decide +kernel⟩, by decide⟩
abbrev mX8_account : lk_M := (yX8_account, cX8_account, 1, (some .long))
theorem vX8_account : lk_cv mX8_account 0 := ⟨lk_in4 (List.mem_of_getElem? (i := 20) rfl) rfl, lk_in4 (List.mem_of_getElem? (i := 21) rfl) rfl, lk_in1 (List.mem_of_getElem? (i := 1) rfl) rfl, lk_in4 (List.mem_of_getElem? (i := 22) rfl) rfl, ⟨by decide +kernel, by decide +kernel, by decide +kernel⟩, by decide⟩
abbrev mX8_image : lk_M := (yX8_image, cX8_image, 1, (some .int))
theorem vX8_image : lk_cv mX8_image 0 := ⟨lk_in4 (List.mem_of_getElem? (i := 24) rfl) rfl, lk_in4 (List.mem_of_getElem? (i := 25) rfl) rfl, lk_in1 (List.mem_of_getElem? (i := 1) rfl) rfl, lk_in4 (List.mem_of_getElem? (i := 26) rfl) rfl, ⟨by decide +kernel, by decide +kernel, by decide +kernel⟩, by decide⟩
abbrev mX8_undo : lk_M := (yX8_undo, cX8_undo, 1, (some .int))
theorem vX8_undo : lk_cv mX8_undo 0 := ⟨lk_in4 (List.mem_of_getElem? (i := 28) rfl) rfl, lk_in4 (List.mem_of_getElem? (i := 29) rfl) rfl, lk_in1 (List.mem_of_getElem? (i := 1) rfl) rfl, lk_in4 (List.mem_of_getElem? (i := 30) rfl) rfl, ⟨by decide +kernel, by decide +kernel, by decide +kernel⟩, by decide⟩
abbrev mX8_count : lk_M := (yX8_count, cX8_count, 2, (some .int))
theorem vX8_count : lk_cv mX8_count 1 := ⟨lk_in4 (List.mem_of_getElem? (i := 32) rfl) rfl, lk_in4 (List.mem_of_getElem? (i := 33) rfl) rfl, lk_in1 (List.mem_of_getElem? (i := 1) rfl) rfl, lk_in4 (List.mem_of_getElem? (i := 34) rfl) rfl, ⟨by decide +kernel, by decide +kernel, by decide +kernel⟩, by decide⟩
abbrev mX9_begins : lk_M := (yX9_begins, cX9_begins, 3, none)
theorem vX9_begins : lk_cv mX9_begins 1 := ⟨lk_in4 (List.mem_of_getElem? (i := 47) rfl) rfl, lk_inS (List.mem_of_getElem? (i := 22) rfl) rfl, lk_in1 (List.mem_of_getElem? (i := 10) rfl) rfl, lk_in4 (List.mem_of_getElem? (i := 48) rfl) rfl, ⟨by decide +kernel, by decide +kernel, by decide +kernel⟩, by decide⟩
abbrev mX9_within : lk_M := (yX9_within, cX9_within, 3, (some .boolean))
theorem vX9_within : lk_cs mX9_within 3 := ⟨lk_in4 (List.mem_of_getElem? (i := 142) rfl) rfl, lk_in1 (List.mem_of_getElem? (i := 10) rfl) rfl, lk_in4 (List.mem_of_getElem? (i := 143) rfl) rfl, ⟨by decide +kernel, by decide +kernel, by decide +kernel⟩, by decide⟩
abbrev mX9_becomes : lk_M := (yX9_becomes, cX9_becomes, 4, (some .int))
theorem vX9_becomes : lk_cv mX9_becomes 2 := ⟨lk_in4 (List.mem_of_getElem? (i := 154) rfl) rfl, lk_inS (List.mem_of_getElem? (i := 24) rfl) rfl, lk_in1 (List.mem_of_getElem? (i := 10) rfl) rfl, lk_in4 (List.mem_of_getElem? (i := 155) rfl) rfl, ⟨by decide +kernel, by decide +kernel, by decide +kernel⟩, by decide⟩
abbrev mX9_isLock : lk_M := (yX9_isLock, cX9_isLock, 2, (some .boolean))
theorem vX9_isLock : lk_cv mX9_isLock 1 := ⟨lk_in4 (List.mem_of_getElem? (i := 150) rfl) rfl, lk_inS (List.mem_of_getElem? (i := 23) rfl) rfl, lk_in1 (List.mem_of_getElem? (i := 10) rfl) rfl, lk_in4 (List.mem_of_getElem? (i := 151) rfl) rfl, ⟨by decide +kernel, by decide +kernel, by decide +kernel⟩, by decide⟩
abbrev mX9_isReach : lk_M := (yX9_isReach, cX9_isReach, 2, (some .boolean))
theorem vX9_isReach : lk_cv mX9_isReach 1 := ⟨lk_in4 (List.mem_of_getElem? (i := 170) rfl) rfl, lk_inS (List.mem_of_getElem? (i := 26) rfl) rfl, lk_in1 (List.mem_of_getElem? (i := 10) rfl) rfl, lk_in4 (List.mem_of_getElem? (i := 171) rfl) rfl, ⟨by decide +kernel, by decide +kernel, by decide +kernel⟩, by decide⟩
abbrev mX9_isBoat : lk_M := (yX9_isBoat, cX9_isBoat, 2, (some .boolean))
theorem vX9_isBoat : lk_cv mX9_isBoat 1 := ⟨lk_in4 (List.mem_of_getElem? (i := 233) rfl) rfl, lk_inS (List.mem_of_getElem? (i := 36) rfl) rfl, lk_in1 (List.mem_of_getElem? (i := 10) rfl) rfl, lk_in4 (List.mem_of_getElem? (i := 234) rfl) rfl, ⟨by decide +kernel, by decide +kernel, by decide +kernel⟩, by decide⟩
abbrev mX9_pours : lk_M := (yX9_pours, cX9_pours, 3, none)
theorem vX9_pours : lk_cs mX9_pours 2 := ⟨lk_in4 (List.mem_of_getElem? (i := 209) rfl) rfl, lk_in1 (List.mem_of_getElem? (i := 10) rfl) rfl, lk_in4 (List.mem_of_getElem? (i := 210) rfl) rfl, ⟨by decide +kernel, by decide +kernel, by decide +kernel⟩, by decide⟩
abbrev mX9_locks : lk_M := (yX9_locks, cX9_locks, 3, (some .int))
theorem vX9_locks : lk_cv mX9_locks 1 := ⟨lk_in4 (List.mem_of_getElem? (i := 138) rfl) rfl, lk_in4 (List.mem_of_getElem? (i := 139) rfl) rfl, lk_in1 (List.mem_of_getElem? (i := 10) rfl) rfl, lk_in4 (List.mem_of_getElem? (i := 140) rfl) rfl, ⟨by decide +kernel, by decide +kernel, by decide +kernel⟩, by decide⟩
abbrev mX9_lock : lk_M := (yX9_lock, cX9_lock, 4, (some .int))
theorem vX9_lock : lk_cv mX9_lock 3 := ⟨lk_in4 (List.mem_of_getElem? (i := 145) rfl) rfl, lk_in4 (List.mem_of_getElem? (i := 146) rfl) rfl, lk_in1 (List.mem_of_getElem? (i := 10) rfl) rfl, lk_in4 (List.mem_of_getElem? (i := 147) rfl) rfl, ⟨by decide +kernel, by decide +kernel, by decide +kernel⟩, by decide⟩
abbrev mX9_share : lk_M := (yX9_share, cX9_share, 2, (some .int))
theorem vX9_share : lk_cv mX9_share 1 := ⟨lk_in4 (List.mem_of_getElem? (i := 162) rfl) rfl, lk_inS (List.mem_of_getElem? (i := 25) rfl) rfl, lk_in1 (List.mem_of_getElem? (i := 10) rfl) rfl, lk_in4 (List.mem_of_getElem? (i := 163) rfl) rfl, ⟨by decide +kernel, by decide +kernel, by decide +kernel⟩, by decide⟩
abbrev mX9_ofLock : lk_M := (yX9_ofLock, cX9_ofLock, 3, (some .int))
theorem vX9_ofLock : lk_cv mX9_ofLock 2 := ⟨lk_in4 (List.mem_of_getElem? (i := 157) rfl) rfl, lk_in4 (List.mem_of_getElem? (i := 158) rfl) rfl, lk_in1 (List.mem_of_getElem? (i := 10) rfl) rfl, lk_in4 (List.mem_of_getElem? (i := 159) rfl) rfl, ⟨by decide +kernel, by decide +kernel, by decide +kernel⟩, by decide⟩
abbrev mX9_reach : lk_M := (yX9_reach, cX9_reach, 7, (some .int))
theorem vX9_reach : lk_cv mX9_reach 3 := ⟨lk_in4 (List.mem_of_getElem? (i := 165) rfl) rfl, lk_in4 (List.mem_of_getElem? (i := 166) rfl) rfl, lk_in1 (List.mem_of_getElem? (i := 10) rfl) rfl, lk_in4 (List.mem_of_getElem? (i := 167) rfl) rfl, ⟨by decide +kernel, by decide +kernel, by decide +kernel⟩, by decide⟩
abbrev mX9_ofReach : lk_M := (yX9_ofReach, cX9_ofReach, 5, (some .int))
theorem vX9_ofReach : lk_cv mX9_ofReach 2 := ⟨lk_in4 (List.mem_of_getElem? (i := 173) rfl) rfl, lk_in4 (List.mem_of_getElem? (i := 174) rfl) rfl, lk_in1 (List.mem_of_getElem? (i := 10) rfl) rfl, lk_in4 (List.mem_of_getElem? (i := 175) rfl) rfl, ⟨by decide +kernel, by decide +kernel, by decide +kernel⟩, by decide⟩
abbrev mX9_feeds : lk_M := (yX9_feeds, cX9_feeds, 2, (some .int))
theorem vX9_feeds : lk_cv mX9_feeds 1 := ⟨lk_in4 (List.mem_of_getElem? (i := 177) rfl) rfl, lk_in4 (List.mem_of_getElem? (i := 178) rfl) rfl, lk_in1 (List.mem_of_getElem? (i := 10) rfl) rfl, lk_in4 (List.mem_of_getElem? (i := 179) rfl) rfl, ⟨by decide +kernel, by decide +kernel, by decide +kernel⟩, by decide⟩
abbrev mX9_feed : lk_M := (yX9_feed, cX9_feed, 2, (some .int))
theorem vX9_feed : lk_cv mX9_feed 1 := ⟨lk_in4 (List.mem_of_getElem? (i := 181) rfl) rfl, lk_in4 (List.mem_of_getElem? (i := 182) rfl) rfl, lk_in1 (List.mem_of_getElem? (i := 10) rfl) rfl, lk_in4 (List.mem_of_getElem? (i := 183) rfl) rfl, ⟨by decide +kernel, by decide +kernel, by decide +kernel⟩, by decide⟩
abbrev mX9_isFrom : lk_M := (yX9_isFrom, cX9_isFrom, 3, (some .boolean))
theorem vX9_isFrom : lk_cv mX9_isFrom 2 := ⟨lk_in4 (List.mem_of_getElem? (i := 198) rfl) rfl, lk_inS (List.mem_of_getElem? (i := 29) rfl) rfl, lk_in1 (List.mem_of_getElem? (i := 10) rfl) rfl, lk_in4 (List.mem_of_getElem? (i := 199) rfl) rfl, ⟨by decide +kernel, by decide +kernel, by decide +kernel⟩, by decide⟩
abbrev mX9_wrong : lk_M := (yX9_wrong, cX9_wrong, 1, none)
theorem vX9_wrong : lk_cv mX9_wrong 0 := ⟨lk_in4 (List.mem_of_getElem? (i := 202) rfl) rfl, lk_inS (List.mem_of_getElem? (i := 30) rfl) rfl, lk_in1 (List.mem_of_getElem? (i := 10) rfl) rfl, lk_in4 (List.mem_of_getElem? (i := 203) rfl) rfl, ⟨by decide +kernel, by decide +kernel, by decide +kernel⟩, by decide⟩
abbrev mX9_name : lk_M := (yX9_name, cX9_name, 4, (some .int))
theorem vX9_name : lk_cv mX9_name 0 := ⟨lk_in4 (List.mem_of_getElem? (i := 194) rfl) rfl, lk_inS (List.mem_of_getElem? (i := 28) rfl) rfl, lk_in1 (List.mem_of_getElem? (i := 10) rfl) rfl, lk_in4 (List.mem_of_getElem? (i := 195) rfl) rfl, ⟨by decide +kernel, by decide +kernel, by decide +kernel⟩, by decide⟩
abbrev mX9_figure : lk_M := (yX9_figure, cX9_figure, 2, (some .int))
theorem vX9_figure : lk_cv mX9_figure 1 := ⟨lk_in4 (List.mem_of_getElem? (i := 206) rfl) rfl, lk_inS (List.mem_of_getElem? (i := 31) rfl) rfl, lk_in1 (List.mem_of_getElem? (i := 10) rfl) rfl, lk_in4 (List.mem_of_getElem? (i := 207) rfl) rfl, ⟨by decide +kernel, by decide +kernel, by decide +kernel⟩, by decide⟩
abbrev mX9_readsBoat : lk_M := (yX9_readsBoat, cX9_readsBoat, 2, none)
theorem vX9_readsBoat : lk_cv mX9_readsBoat 0 := ⟨lk_in4 (List.mem_of_getElem? (i := 190) rfl) rfl, lk_inS (List.mem_of_getElem? (i := 27) rfl) rfl, lk_in1 (List.mem_of_getElem? (i := 10) rfl) rfl, lk_in4 (List.mem_of_getElem? (i := 191) rfl) rfl, ⟨by decide +kernel, by decide +kernel, by decide +kernel⟩, by decide⟩
abbrev mX9_where : lk_M := (yX9_where, cX9_where, 3, (some .int))
theorem vX9_where : lk_cv mX9_where 1 := ⟨lk_in4 (List.mem_of_getElem? (i := 217) rfl) rfl, lk_inS (List.mem_of_getElem? (i := 33) rfl) rfl, lk_in1 (List.mem_of_getElem? (i := 10) rfl) rfl, lk_in4 (List.mem_of_getElem? (i := 218) rfl) rfl, ⟨by decide +kernel, by decide +kernel, by decide +kernel⟩, by decide⟩
abbrev mX9_isThere : lk_M := (yX9_isThere, cX9_isThere, 3, (some .boolean))
theorem vX9_isThere : lk_cv mX9_isThere 2 := ⟨lk_in4 (List.mem_of_getElem? (i := 221) rfl) rfl, lk_inS (List.mem_of_getElem? (i := 34) rfl) rfl, lk_in1 (List.mem_of_getElem? (i := 10) rfl) rfl, lk_in4 (List.mem_of_getElem? (i := 222) rfl) rfl, ⟨by decide +kernel, by decide +kernel, by decide +kernel⟩, by decide⟩
abbrev mX9_shifts : lk_M := (yX9_shifts, cX9_shifts, 4, none)
theorem vX9_shifts : lk_cv mX9_shifts 2 := ⟨lk_in4 (List.mem_of_getElem? (i := 225) rfl) rfl, lk_inS (List.mem_of_getElem? (i := 35) rfl) rfl, lk_in1 (List.mem_of_getElem? (i := 10) rfl) rfl, lk_in4 (List.mem_of_getElem? (i := 226) rfl) rfl, ⟨by decide +kernel, by decide +kernel, by decide +kernel⟩, by decide⟩
abbrev mX9_comes : lk_M := (yX9_comes, cX9_comes, 4, (some .boolean))
theorem vX9_comes : lk_cv mX9_comes 1 := ⟨lk_in4 (List.mem_of_getElem? (i := 213) rfl) rfl, lk_inS (List.mem_of_getElem? (i := 32) rfl) rfl, lk_in1 (List.mem_of_getElem? (i := 10) rfl) rfl, lk_in4 (List.mem_of_getElem? (i := 214) rfl) rfl, ⟨by decide +kernel, by decide +kernel, by decide +kernel⟩, by decide⟩
abbrev mX9_boats : lk_M := (yX9_boats, cX9_boats, 2, (some .int))
theorem vX9_boats : lk_cv mX9_boats 0 := ⟨lk_in4 (List.mem_of_getElem? (i := 185) rfl) rfl, lk_in4 (List.mem_of_getElem? (i := 186) rfl) rfl, lk_in1 (List.mem_of_getElem? (i := 10) rfl) rfl, lk_in4 (List.mem_of_getElem? (i := 187) rfl) rfl, ⟨by decide +kernel, by decide +kernel, by decide +kernel⟩, by decide⟩
abbrev mX9_letter : lk_M := (yX9_letter, cX9_letter, 4, (some .int))
theorem vX9_letter : lk_cs mX9_letter 2 := ⟨lk_in4 (List.mem_of_getElem? (i := 236) rfl) rfl, lk_in1 (List.mem_of_getElem? (i := 10) rfl) rfl, lk_in4 (List.mem_of_getElem? (i := 237) rfl) rfl, ⟨by decide +kernel, by decide +kernel, by decide +kernel⟩, by decide⟩
abbrev mX9_boat : lk_M := (yX9_boat, cX9_boat, 5, (some .int))
theorem vX9_boat : lk_cv mX9_boat 2 := ⟨lk_in4 (List.mem_of_getElem? (i := 228) rfl) rfl, lk_in4 (List.mem_of_getElem? (i := 229) rfl) rfl, lk_in1 (List.mem_of_getElem? (i := 10) rfl) rfl, lk_in4 (List.mem_of_getElem? (i := 230) rfl) rfl, ⟨by decide +kernel, by decide +kernel, by decide +kernel⟩, by decide⟩
abbrev mX9_find : lk_M := (yX9_find, cX9_find, 4, (some .int))
theorem vX9_find : lk_cv mX9_find 0 := ⟨lk_in4 (List.mem_of_getElem? (i := 239) rfl) rfl, lk_in5 (List.mem_of_getElem? (i := 0) rfl) rfl, lk_in1 (List.mem_of_getElem? (i := 10) rfl) rfl, lk_in5 (List.mem_of_getElem? (i := 1) rfl) rfl, ⟨by decide +kernel, by decide +kernel, by decide +kernel⟩, by decide⟩
abbrev mX9_leaves : lk_M := (yX9_leaves, cX9_leaves, 3, (some .int))
theorem vX9_leaves : lk_cv mX9_leaves 1 := ⟨lk_in5 (List.mem_of_getElem? (i := 3) rfl) rfl, lk_in5 (List.mem_of_getElem? (i := 4) rfl) rfl, lk_in1 (List.mem_of_getElem? (i := 10) rfl) rfl, lk_in5 (List.mem_of_getElem? (i := 5) rfl) rfl, ⟨by decide +kernel, by decide +kernel, by decide +kernel⟩, by decide⟩
abbrev mX9_about : lk_M := (yX9_about, cX9_about, 2, (some .int))
theorem vX9_about : lk_cv mX9_about 1 := ⟨lk_in5 (List.mem_of_getElem? (i := 7) rfl) rfl, lk_in5 (List.mem_of_getElem? (i := 8) rfl) rfl, lk_in1 (List.mem_of_getElem? (i := 10) rfl) rfl, lk_in5 (List.mem_of_getElem? (i := 9) rfl) rfl, ⟨by decide +kernel, by decide +kernel, by decide +kernel⟩, by decide⟩
abbrev mX9_flows : lk_M := (yX9_flows, cX9_flows, 7, (some .boolean))
theorem vX9_flows : lk_cv mX9_flows 4 := ⟨lk_in5 (List.mem_of_getElem? (i := 42) rfl) rfl, lk_inS (List.mem_of_getElem? (i := 43) rfl) rfl, lk_in1 (List.mem_of_getElem? (i := 10) rfl) rfl, lk_in5 (List.mem_of_getElem? (i := 43) rfl) rfl, ⟨by decide +kernel, by decide +kernel, by decide +kernel⟩, by decide⟩
abbrev mX9_fills : lk_M := (yX9_fills, cX9_fills, 2, (some .boolean))
theorem vX9_fills : lk_cv mX9_fills 1 := ⟨lk_in5 (List.mem_of_getElem? (i := 46) rfl) rfl, lk_inS (List.mem_of_getElem? (i := 44) rfl) rfl, lk_in1 (List.mem_of_getElem? (i := 10) rfl) rfl, lk_in5 (List.mem_of_getElem? (i := 47) rfl) rfl, ⟨by decide +kernel, by decide +kernel, by decide +kernel⟩, by decide⟩
abbrev mX9_empties : lk_M := (yX9_empties, cX9_empties, 2, (some .boolean))
theorem vX9_empties : lk_cv mX9_empties 1 := ⟨lk_in5 (List.mem_of_getElem? (i := 38) rfl) rfl, lk_inS (List.mem_of_getElem? (i := 42) rfl) rfl, lk_in1 (List.mem_of_getElem? (i := 10) rfl) rfl, lk_in5 (List.mem_of_getElem? (i := 39) rfl) rfl, ⟨by decide +kernel, by decide +kernel, by decide +kernel⟩, by decide⟩
abbrev mX9_goes : lk_M := (yX9_goes, cX9_goes, 9, (some .boolean))
theorem vX9_goes : lk_cv mX9_goes 3 := ⟨lk_in5 (List.mem_of_getElem? (i := 34) rfl) rfl, lk_inS (List.mem_of_getElem? (i := 41) rfl) rfl, lk_in1 (List.mem_of_getElem? (i := 10) rfl) rfl, lk_in5 (List.mem_of_getElem? (i := 35) rfl) rfl, ⟨by decide +kernel, by decide +kernel, by decide +kernel⟩, by decide⟩
abbrev mX9_goesTruly : lk_M := (yX9_goesTruly, cX9_goesTruly, 4, (some .boolean))
theorem vX9_goesTruly : lk_cv mX9_goesTruly 3 := ⟨lk_in5 (List.mem_of_getElem? (i := 30) rfl) rfl, lk_inS (List.mem_of_getElem? (i := 40) rfl) rfl, lk_in1 (List.mem_of_getElem? (i := 10) rfl) rfl, lk_in5 (List.mem_of_getElem? (i := 31) rfl) rfl, ⟨by decide +kernel, by decide +kernel, by decide +kernel⟩, by decide⟩
abbrev mX9_isUp : lk_M := (yX9_isUp, cX9_isUp, 2, (some .boolean))
theorem vX9_isUp : lk_cv mX9_isUp 1 := ⟨lk_in5 (List.mem_of_getElem? (i := 21) rfl) rfl, lk_inS (List.mem_of_getElem? (i := 38) rfl) rfl, lk_in1 (List.mem_of_getElem? (i := 10) rfl) rfl, lk_in5 (List.mem_of_getElem? (i := 22) rfl) rfl, ⟨by decide +kernel, by decide +kernel, by decide +kernel⟩, by decide⟩
abbrev mX9_lockOf : lk_M := (yX9_lockOf, cX9_lockOf, 3, (some .int))
theorem vX9_lockOf : lk_cv mX9_lockOf 1 := ⟨lk_in5 (List.mem_of_getElem? (i := 17) rfl) rfl, lk_inS (List.mem_of_getElem? (i := 37) rfl) rfl, lk_in1 (List.mem_of_getElem? (i := 10) rfl) rfl, lk_in5 (List.mem_of_getElem? (i := 18) rfl) rfl, ⟨by decide +kernel, by decide +kernel, by decide +kernel⟩, by decide⟩
abbrev mX9_boatGoes : lk_M := (yX9_boatGoes, cX9_boatGoes, 5, (some .boolean))
theorem vX9_boatGoes : lk_cv mX9_boatGoes 2 := ⟨lk_in5 (List.mem_of_getElem? (i := 26) rfl) rfl, lk_inS (List.mem_of_getElem? (i := 39) rfl) rfl, lk_in1 (List.mem_of_getElem? (i := 10) rfl) rfl, lk_in5 (List.mem_of_getElem? (i := 27) rfl) rfl, ⟨by decide +kernel, by decide +kernel, by decide +kernel⟩, by decide⟩
abbrev mX9_pass : lk_M := (yX9_pass, cX9_pass, 2, (some .int))
theorem vX9_pass : lk_cv mX9_pass 1 := ⟨lk_in5 (List.mem_of_getElem? (i := 11) rfl) rfl, lk_in5 (List.mem_of_getElem? (i := 12) rfl) rfl, lk_in1 (List.mem_of_getElem? (i := 10) rfl) rfl, lk_in5 (List.mem_of_getElem? (i := 13) rfl) rfl, ⟨by decide +kernel, by decide +kernel, by decide +kernel⟩, by decide⟩
abbrev mX9_through : lk_M := (yX9_through, cX9_through, 3, (some .int))
theorem vX9_through : lk_cv mX9_through 1 := ⟨lk_in5 (List.mem_of_getElem? (i := 50) rfl) rfl, lk_in5 (List.mem_of_getElem? (i := 51) rfl) rfl, lk_in1 (List.mem_of_getElem? (i := 10) rfl) rfl, lk_in5 (List.mem_of_getElem? (i := 52) rfl) rfl, ⟨by decide +kernel, by decide +kernel, by decide +kernel⟩, by decide⟩
abbrev mX9_costs : lk_M := (yX9_costs, cX9_costs, 6, (some .int))
theorem vX9_costs : lk_cv mX9_costs 1 := ⟨lk_in5 (List.mem_of_getElem? (i := 54) rfl) rfl, lk_in5 (List.mem_of_getElem? (i := 55) rfl) rfl, lk_in1 (List.mem_of_getElem? (i := 10) rfl) rfl, lk_in5 (List.mem_of_getElem? (i := 56) rfl) rfl, ⟨by decide +kernel, by decide +kernel, by decide +kernel⟩, by decide⟩
abbrev mX9_why : lk_M := (yX9_why, cX9_why, 2, (some .int))
theorem vX9_why : lk_cv mX9_why 1 := ⟨lk_in5 (List.mem_of_getElem? (i := 58) rfl) rfl, lk_in5 (List.mem_of_getElem? (i := 59) rfl) rfl, lk_in1 (List.mem_of_getElem? (i := 10) rfl) rfl, lk_in5 (List.mem_of_getElem? (i := 60) rfl) rfl, ⟨by decide +kernel, by decide +kernel, by decide +kernel⟩, by decide⟩
abbrev mX9_queues : lk_M := (yX9_queues, cX9_queues, 7, (some .int))
theorem vX9_queues : lk_cv mX9_queues 3 := ⟨lk_in5 (List.mem_of_getElem? (i := 71) rfl) rfl, lk_inS (List.mem_of_getElem? (i := 46) rfl) rfl, lk_in1 (List.mem_of_getElem? (i := 10) rfl) rfl, lk_in5 (List.mem_of_getElem? (i := 72) rfl) rfl, ⟨by decide +kernel, by decide +kernel, by decide +kernel⟩, by decide⟩
abbrev mX9_queuesOf : lk_M := (yX9_queuesOf, cX9_queuesOf, 2, none)
theorem vX9_queuesOf : lk_cv mX9_queuesOf 1 := ⟨lk_in5 (List.mem_of_getElem? (i := 67) rfl) rfl, lk_inS (List.mem_of_getElem? (i := 45) rfl) rfl, lk_in1 (List.mem_of_getElem? (i := 10) rfl) rfl, lk_in5 (List.mem_of_getElem? (i := 68) rfl) rfl, ⟨by decide +kernel, by decide +kernel, by decide +kernel⟩, by decide⟩
abbrev mX9_queue : lk_M := (yX9_queue, cX9_queue, 3, (some .int))
theorem vX9_queue : lk_cv mX9_queue 2 := ⟨lk_in5 (List.mem_of_getElem? (i := 62) rfl) rfl, lk_in5 (List.mem_of_getElem? (i := 63) rfl) rfl, lk_in1 (List.mem_of_getElem? (i := 10) rfl) rfl, lk_in5 (List.mem_of_getElem? (i := 64) rfl) rfl, ⟨by decide +kernel, by decide +kernel, by decide +kernel⟩, by decide⟩
abbrev mX9_weaves : lk_M := (yX9_weaves, cX9_weaves, 11, none)
theorem vX9_weaves : lk_cv mX9_weaves 4 := ⟨lk_in5 (List.mem_of_getElem? (i := 84) rfl) rfl, lk_inS (List.mem_of_getElem? (i := 48) rfl) rfl, lk_in1 (List.mem_of_getElem? (i := 10) rfl) rfl, lk_in5 (List.mem_of_getElem? (i := 85) rfl) rfl, ⟨by decide +kernel, by decide +kernel, by decide +kernel⟩, by decide⟩
abbrev mX9_weavesAll : lk_M := (yX9_weavesAll, cX9_weavesAll, 2, none)
theorem vX9_weavesAll : lk_cv mX9_weavesAll 1 := ⟨lk_in5 (List.mem_of_getElem? (i := 79) rfl) rfl, lk_inS (List.mem_of_getElem? (i := 47) rfl) rfl, lk_in1 (List.mem_of_getElem? (i := 10) rfl) rfl, lk_in5 (List.mem_of_getElem? (i := 80) rfl) rfl, ⟨by decide +kernel, by decide +kernel, by decide +kernel⟩, by decide⟩
abbrev mX9_orders : lk_M := (yX9_orders, cX9_orders, 2, (some .int))
theorem vX9_orders : lk_cv mX9_orders 1 := ⟨lk_in5 (List.mem_of_getElem? (i := 74) rfl) rfl, lk_in5 (List.mem_of_getElem? (i := 75) rfl) rfl, lk_in1 (List.mem_of_getElem? (i := 10) rfl) rfl, lk_in5 (List.mem_of_getElem? (i := 76) rfl) rfl, ⟨by decide +kernel, by decide +kernel, by decide +kernel⟩, by decide⟩
abbrev mX9_best : lk_M := (yX9_best, cX9_best, 4, (some .int))
theorem vX9_best : lk_cv mX9_best 2 := ⟨lk_in5 (List.mem_of_getElem? (i := 88) rfl) rfl, lk_in5 (List.mem_of_getElem? (i := 89) rfl) rfl, lk_in1 (List.mem_of_getElem? (i := 10) rfl) rfl, lk_in5 (List.mem_of_getElem? (i := 90) rfl) rfl, ⟨by decide +kernel, by decide +kernel, by decide +kernel⟩, by decide⟩
abbrev mX9_isFromBelow : lk_M := (yX9_isFromBelow, cX9_isFromBelow, 7, (some .boolean))
theorem vX9_isFromBelow : lk_cv mX9_isFromBelow 4 := ⟨lk_in5 (List.mem_of_getElem? (i := 101) rfl) rfl, lk_inS (List.mem_of_getElem? (i := 50) rfl) rfl, lk_in1 (List.mem_of_getElem? (i := 10) rfl) rfl, lk_in5 (List.mem_of_getElem? (i := 102) rfl) rfl, ⟨by decide +kernel, by decide +kernel, by decide +kernel⟩, by decide⟩
abbrev mX9_runs : lk_M := (yX9_runs, cX9_runs, 7, none)
theorem vX9_runs : lk_cv mX9_runs 3 := ⟨lk_in5 (List.mem_of_getElem? (i := 97) rfl) rfl, lk_inS (List.mem_of_getElem? (i := 49) rfl) rfl, lk_in1 (List.mem_of_getElem? (i := 10) rfl) rfl, lk_in5 (List.mem_of_getElem? (i := 98) rfl) rfl, ⟨by decide +kernel, by decide +kernel, by decide +kernel⟩, by decide⟩
abbrev mX9_ruled : lk_M := (yX9_ruled, cX9_ruled, 5, (some .int))
theorem vX9_ruled : lk_cv mX9_ruled 3 := ⟨lk_in5 (List.mem_of_getElem? (i := 92) rfl) rfl, lk_in5 (List.mem_of_getElem? (i := 93) rfl) rfl, lk_in1 (List.mem_of_getElem? (i := 10) rfl) rfl, lk_in5 (List.mem_of_getElem? (i := 94) rfl) rfl, ⟨by decide +kernel, by decide +kernel, by decide +kernel⟩, by decide⟩
abbrev mX9_run : lk_M := (yX9_run, cX9_run, 3, (some .int))
theorem vX9_run : lk_cv mX9_run 2 := ⟨lk_in5 (List.mem_of_getElem? (i := 104) rfl) rfl, lk_in5 (List.mem_of_getElem? (i := 105) rfl) rfl, lk_in1 (List.mem_of_getElem? (i := 10) rfl) rfl, lk_in5 (List.mem_of_getElem? (i := 106) rfl) rfl, ⟨by decide +kernel, by decide +kernel, by decide +kernel⟩, by decide⟩
abbrev mX9_keeper : lk_M := (yX9_keeper, cX9_keeper, 6, (some .int))
theorem vX9_keeper : lk_cv mX9_keeper 1 := ⟨lk_in5 (List.mem_of_getElem? (i := 108) rfl) rfl, lk_in5 (List.mem_of_getElem? (i := 109) rfl) rfl, lk_in1 (List.mem_of_getElem? (i := 10) rfl) rfl, lk_in5 (List.mem_of_getElem? (i := 110) rfl) rfl, ⟨by decide +kernel, by decide +kernel, by decide +kernel⟩, by decide⟩
abbrev mX9_crosses : lk_M := (yX9_crosses, cX9_crosses, 6, (some .boolean))
theorem vX9_crosses : lk_cv mX9_crosses 2 := ⟨lk_in5 (List.mem_of_getElem? (i := 125) rfl) rfl, lk_inS (List.mem_of_getElem? (i := 52) rfl) rfl, lk_in1 (List.mem_of_getElem? (i := 10) rfl) rfl, lk_in5 (List.mem_of_getElem? (i := 126) rfl) rfl, ⟨by decide +kernel, by decide +kernel, by decide +kernel⟩, by decide⟩
abbrev mX9_dayGoes : lk_M := (yX9_dayGoes, cX9_dayGoes, 9, none)
theorem vX9_dayGoes : lk_cv mX9_dayGoes 3 := ⟨lk_in5 (List.mem_of_getElem? (i := 120) rfl) rfl, lk_inS (List.mem_of_getElem? (i := 51) rfl) rfl, lk_in1 (List.mem_of_getElem? (i := 10) rfl) rfl, lk_in5 (List.mem_of_getElem? (i := 121) rfl) rfl, ⟨by decide +kernel, by decide +kernel, by decide +kernel⟩, by decide⟩
abbrev mX9_isTraffic : lk_M := (yX9_isTraffic, cX9_isTraffic, 2, (some .boolean))
theorem vX9_isTraffic : lk_cs mX9_isTraffic 2 := ⟨lk_in5 (List.mem_of_getElem? (i := 116) rfl) rfl, lk_in1 (List.mem_of_getElem? (i := 10) rfl) rfl, lk_in5 (List.mem_of_getElem? (i := 117) rfl) rfl, ⟨by decide +kernel, by decide +kernel, by decide +kernel⟩, by decide⟩
abbrev mX9_day : lk_M := (yX9_day, cX9_day, 3, (some .int))
theorem vX9_day : lk_cv mX9_day 2 := ⟨lk_in5 (List.mem_of_getElem? (i := 112) rfl) rfl, lk_in5 (List.mem_of_getElem? (i := 113) rfl) rfl, lk_in1 (List.mem_of_getElem? (i := 10) rfl) rfl, lk_in5 (List.mem_of_getElem? (i := 114) rfl) rfl, ⟨by decide +kernel, by decide +kernel, by decide +kernel⟩, by decide⟩
abbrev mX9_dry : lk_M := (yX9_dry, cX9_dry, 5, (some .int))
theorem vX9_dry : lk_cv mX9_dry 3 := ⟨lk_in5 (List.mem_of_getElem? (i := 128) rfl) rfl, lk_in5 (List.mem_of_getElem? (i := 129) rfl) rfl, lk_in1 (List.mem_of_getElem? (i := 10) rfl) rfl, lk_in5 (List.mem_of_getElem? (i := 130) rfl) rfl, ⟨by decide +kernel, by decide +kernel, by decide +kernel⟩, by decide⟩
abbrev mX9_summit : lk_M := (yX9_summit, cX9_summit, 5, (some .int))
theorem vX9_summit : lk_cv mX9_summit 3 := ⟨lk_in5 (List.mem_of_getElem? (i := 137) rfl) rfl, lk_inS (List.mem_of_getElem? (i := 53) rfl) rfl, lk_in1 (List.mem_of_getElem? (i := 10) rfl) rfl, lk_in5 (List.mem_of_getElem? (i := 138) rfl) rfl, ⟨by decide +kernel, by decide +kernel, by decide +kernel⟩, by decide⟩
abbrev mX9_pond : lk_M := (yX9_pond, cX9_pond, 8, (some .int))
theorem vX9_pond : lk_cv mX9_pond 3 := ⟨lk_in5 (List.mem_of_getElem? (i := 132) rfl) rfl, lk_in5 (List.mem_of_getElem? (i := 133) rfl) rfl, lk_in1 (List.mem_of_getElem? (i := 10) rfl) rfl, lk_in5 (List.mem_of_getElem? (i := 134) rfl) rfl, ⟨by decide +kernel, by decide +kernel, by decide +kernel⟩, by decide⟩
abbrev mX9_water : lk_M := (yX9_water, cX9_water, 3, (some .int))
theorem vX9_water : lk_cv mX9_water 0 := ⟨lk_in5 (List.mem_of_getElem? (i := 140) rfl) rfl, lk_in5 (List.mem_of_getElem? (i := 141) rfl) rfl, lk_in1 (List.mem_of_getElem? (i := 10) rfl) rfl, lk_in5 (List.mem_of_getElem? (i := 142) rfl) rfl, ⟨by decide +kernel, by decide +kernel, by decide +kernel⟩, by decide⟩
abbrev mX9_levels : lk_M := (yX9_levels, cX9_levels, 7, (some .int))
theorem vX9_levels : lk_cv mX9_levels 1 := ⟨lk_in5 (List.mem_of_getElem? (i := 144) rfl) rfl, lk_in5 (List.mem_of_getElem? (i := 145) rfl) rfl, lk_in1 (List.mem_of_getElem? (i := 10) rfl) rfl, lk_in5 (List.mem_of_getElem? (i := 146) rfl) rfl, ⟨by decide +kernel, by decide +kernel, by decide +kernel⟩, by decide⟩
abbrev mX9_tally : lk_M := (yX9_tally, cX9_tally, 6, (some .int))
theorem vX9_tally : lk_cv mX9_tally 2 := ⟨lk_in5 (List.mem_of_getElem? (i := 148) rfl) rfl, lk_in5 (List.mem_of_getElem? (i := 149) rfl) rfl, lk_in1 (List.mem_of_getElem? (i := 10) rfl) rfl, lk_in5 (List.mem_of_getElem? (i := 150) rfl) rfl, ⟨by decide +kernel, by decide +kernel, by decide +kernel⟩, by decide⟩
abbrev mX9_isBeyond : lk_M := (yX9_isBeyond, cX9_isBeyond, 6, (some .boolean))
theorem vX9_isBeyond : lk_cs mX9_isBeyond 2 := ⟨lk_in5 (List.mem_of_getElem? (i := 156) rfl) rfl, lk_in1 (List.mem_of_getElem? (i := 10) rfl) rfl, lk_in5 (List.mem_of_getElem? (i := 157) rfl) rfl, ⟨by decide +kernel, by decide +kernel, by decide +kernel⟩, by decide⟩
abbrev mX9_pays : lk_M := (yX9_pays, cX9_pays, 9, (some .int))
theorem vX9_pays : lk_cv mX9_pays 2 := ⟨lk_in5 (List.mem_of_getElem? (i := 152) rfl) rfl, lk_in5 (List.mem_of_getElem? (i := 153) rfl) rfl, lk_in1 (List.mem_of_getElem? (i := 10) rfl) rfl, lk_in5 (List.mem_of_getElem? (i := 154) rfl) rfl, ⟨by decide +kernel, by decide +kernel, by decide +kernel⟩, by decide⟩
abbrev mX9_account : lk_M := (yX9_account, cX9_account, 1, (some .long))
theorem vX9_account : lk_cv mX9_account 0 := ⟨lk_in5 (List.mem_of_getElem? (i := 161) rfl) rfl, lk_in5 (List.mem_of_getElem? (i := 162) rfl) rfl, lk_in1 (List.mem_of_getElem? (i := 10) rfl) rfl, lk_in5 (List.mem_of_getElem? (i := 163) rfl) rfl, ⟨by decide +kernel, by decide +kernel, by decide +kernel⟩, by decide⟩
abbrev mX9_image : lk_M := (yX9_image, cX9_image, 1, (some .int))
theorem vX9_image : lk_cv mX9_image 0 := ⟨lk_in5 (List.mem_of_getElem? (i := 165) rfl) rfl, lk_in5 (List.mem_of_getElem? (i := 166) rfl) rfl, lk_in1 (List.mem_of_getElem? (i := 10) rfl) rfl, lk_in5 (List.mem_of_getElem? (i := 167) rfl) rfl, ⟨by decide +kernel, by decide +kernel, by decide +kernel⟩, by decide⟩
abbrev mX9_undo : lk_M := (yX9_undo, cX9_undo, 1, (some .int))
theorem vX9_undo : lk_cv mX9_undo 0 := ⟨lk_in5 (List.mem_of_getElem? (i := 169) rfl) rfl, lk_in5 (List.mem_of_getElem? (i := 170) rfl) rfl, lk_in1 (List.mem_of_getElem? (i := 10) rfl) rfl, lk_in5 (List.mem_of_getElem? (i := 171) rfl) rfl, ⟨by decide +kernel, by decide +kernel, by decide +kernel⟩, by decide⟩
abbrev mX9_count : lk_M := (yX9_count, cX9_count, 4, (some .int))
theorem vX9_count : lk_cv mX9_count 1 := ⟨lk_in5 (List.mem_of_getElem? (i := 173) rfl) rfl, lk_in5 (List.mem_of_getElem? (i := 174) rfl) rfl, lk_in1 (List.mem_of_getElem? (i := 10) rfl) rfl, lk_in5 (List.mem_of_getElem? (i := 175) rfl) rfl, ⟨by decide +kernel, by decide +kernel, by decide +kernel⟩, by decide⟩
abbrev mJ9_max_7cf53 : lk_M := (yJ9_max_7cf53, cJ9_max_7cf53, 2, (some .int))
theorem vJ9_max_7cf53 : lk_cs mJ9_max_7cf53 2 := ⟨lk_in3 (List.mem_of_getElem? (i := 204) rfl) rfl, lk_in1 (List.mem_of_getElem? (i := 12) rfl) rfl, lk_in3 (List.mem_of_getElem? (i := 205) rfl) rfl, ⟨by decide +kernel, by decide +kernel, by decide +kernel⟩, by decide⟩
abbrev mJ9_min_7cf53 : lk_M := (yJ9_min_7cf53, cJ9_min_7cf53, 2, (some .int))
theorem vJ9_min_7cf53 : lk_cs mJ9_min_7cf53 2 := ⟨lk_in3 (List.mem_of_getElem? (i := 103) rfl) rfl, lk_in1 (List.mem_of_getElem? (i := 12) rfl) rfl, lk_in3 (List.mem_of_getElem? (i := 104) rfl) rfl, ⟨by decide +kernel, by decide +kernel, by decide +kernel⟩, by decide⟩
theorem fX5_11 : Cond.fieldLink RX5 11 "LockStaircase$Tally" "often" "[I" ∈ lk_AW := lk_in1 (List.mem_of_getElem? (i := 34) rfl) rfl
theorem fX1_9 : Cond.fieldLink RX1 9 "LockStaircase$Cause" "known" "Z" ∈ lk_AW := lk_in1 (List.mem_of_getElem? (i := 46) rfl) rfl
theorem fX0_95 : Cond.fieldLink RX0 95 "LockStaircase$Cause" "known" "Z" ∈ lk_AW := lk_in1 (List.mem_of_getElem? (i := 47) rfl) rfl
theorem fX1_15 : Cond.fieldLink RX1 15 "LockStaircase$Cause" "lock" "I" ∈ lk_AW := lk_in1 (List.mem_of_getElem? (i := 48) rfl) rfl
theorem fX0_99 : Cond.fieldLink RX0 99 "LockStaircase$Cause" "lock" "I" ∈ lk_AW := lk_in1 (List.mem_of_getElem? (i := 49) rfl) rfl
theorem fX8_315 : Cond.fieldLink RX8 315 "LockStaircase$Cause" "lock" "I" ∈ lk_AW := lk_in1 (List.mem_of_getElem? (i := 50) rfl) rfl
theorem fX1_19 : Cond.fieldLink RX1 19 "LockStaircase$Cause" "step" "I" ∈ lk_AW := lk_in1 (List.mem_of_getElem? (i := 51) rfl) rfl
theorem fX0_102 : Cond.fieldLink RX0 102 "LockStaircase$Cause" "step" "I" ∈ lk_AW := lk_in1 (List.mem_of_getElem? (i := 52) rfl) rfl
theorem fX1_22 : Cond.fieldLink RX1 22 "LockStaircase$Cause" "reach" "I" ∈ lk_AW := lk_in1 (List.mem_of_getElem? (i := 53) rfl) rfl
theorem fX0_105 : Cond.fieldLink RX0 105 "LockStaircase$Cause" "reach" "I" ∈ lk_AW := lk_in1 (List.mem_of_getElem? (i := 54) rfl) rfl
theorem fX1_25 : Cond.fieldLink RX1 25 "LockStaircase$Cause" "side" "I" ∈ lk_AW := lk_in1 (List.mem_of_getElem? (i := 55) rfl) rfl
theorem fX0_108 : Cond.fieldLink RX0 108 "LockStaircase$Cause" "side" "I" ∈ lk_AW := lk_in1 (List.mem_of_getElem? (i := 56) rfl) rfl
theorem fX0_51 : Cond.fieldLink RX0 51 "LockStaircase$Canal" "locks" "I" ∈ lk_AW := lk_in1 (List.mem_of_getElem? (i := 68) rfl) rfl
theorem fX8_72 : Cond.fieldLink RX8 72 "LockStaircase$Canal" "locks" "I" ∈ lk_AW := lk_in1 (List.mem_of_getElem? (i := 69) rfl) rfl
theorem fX0_55 : Cond.fieldLink RX0 55 "LockStaircase$Canal" "inflow" "I" ∈ lk_AW := lk_in1 (List.mem_of_getElem? (i := 70) rfl) rfl
theorem fX8_127 : Cond.fieldLink RX8 127 "LockStaircase$Canal" "inflow" "I" ∈ lk_AW := lk_in1 (List.mem_of_getElem? (i := 71) rfl) rfl
theorem fX0_9 : Cond.fieldLink RX0 9 "LockStaircase$Canal" "lockful" "[I" ∈ lk_AW := lk_in1 (List.mem_of_getElem? (i := 72) rfl) rfl
theorem fX8_94 : Cond.fieldLink RX8 94 "LockStaircase$Canal" "lockful" "[I" ∈ lk_AW := lk_in1 (List.mem_of_getElem? (i := 73) rfl) rfl
theorem fX0_15 : Cond.fieldLink RX0 15 "LockStaircase$Canal" "ponds" "[I" ∈ lk_AW := lk_in1 (List.mem_of_getElem? (i := 74) rfl) rfl
theorem fX8_98 : Cond.fieldLink RX8 98 "LockStaircase$Canal" "ponds" "[I" ∈ lk_AW := lk_in1 (List.mem_of_getElem? (i := 75) rfl) rfl
theorem fX0_18 : Cond.fieldLink RX0 18 "LockStaircase$Canal" "held" "[I" ∈ lk_AW := lk_in1 (List.mem_of_getElem? (i := 76) rfl) rfl
theorem fX0_21 : Cond.fieldLink RX0 21 "LockStaircase$Canal" "full" "[Z" ∈ lk_AW := lk_in1 (List.mem_of_getElem? (i := 77) rfl) rfl
theorem fX4_32 : Cond.fieldLink RX4 32 "LockStaircase$Canal" "full" "[Z" ∈ lk_AW := lk_in1 (List.mem_of_getElem? (i := 78) rfl) rfl
theorem fX8_288 : Cond.fieldLink RX8 288 "LockStaircase$Canal" "full" "[Z" ∈ lk_AW := lk_in1 (List.mem_of_getElem? (i := 79) rfl) rfl
theorem fX0_25 : Cond.fieldLink RX0 25 "LockStaircase$Canal" "level" "[I" ∈ lk_AW := lk_in1 (List.mem_of_getElem? (i := 80) rfl) rfl
theorem fX8_107 : Cond.fieldLink RX8 107 "LockStaircase$Canal" "level" "[I" ∈ lk_AW := lk_in1 (List.mem_of_getElem? (i := 81) rfl) rfl
theorem fX0_28 : Cond.fieldLink RX0 28 "LockStaircase$Canal" "least" "[I" ∈ lk_AW := lk_in1 (List.mem_of_getElem? (i := 82) rfl) rfl
theorem fX8_110 : Cond.fieldLink RX8 110 "LockStaircase$Canal" "least" "[I" ∈ lk_AW := lk_in1 (List.mem_of_getElem? (i := 83) rfl) rfl
theorem fX0_31 : Cond.fieldLink RX0 31 "LockStaircase$Canal" "most" "[I" ∈ lk_AW := lk_in1 (List.mem_of_getElem? (i := 84) rfl) rfl
theorem fX8_113 : Cond.fieldLink RX8 113 "LockStaircase$Canal" "most" "[I" ∈ lk_AW := lk_in1 (List.mem_of_getElem? (i := 85) rfl) rfl
theorem fX0_34 : Cond.fieldLink RX0 34 "LockStaircase$Canal" "loss" "[I" ∈ lk_AW := lk_in1 (List.mem_of_getElem? (i := 86) rfl) rfl
theorem fX0_40 : Cond.fieldLink RX0 40 "LockStaircase$Canal" "tally" "LLockStaircase$Tally;" ∈ lk_AW := lk_in1 (List.mem_of_getElem? (i := 87) rfl) rfl
theorem fX8_328 : Cond.fieldLink RX8 328 "LockStaircase$Canal" "tally" "LLockStaircase$Tally;" ∈ lk_AW := lk_in1 (List.mem_of_getElem? (i := 88) rfl) rfl
theorem fX0_47 : Cond.fieldLink RX0 47 "LockStaircase$Canal" "cause" "LLockStaircase$Cause;" ∈ lk_AW := lk_in1 (List.mem_of_getElem? (i := 89) rfl) rfl
theorem fX8_216 : Cond.fieldLink RX8 216 "LockStaircase$Canal" "cause" "LLockStaircase$Cause;" ∈ lk_AW := lk_in1 (List.mem_of_getElem? (i := 90) rfl) rfl
theorem fX0_119 : Cond.fieldLink RX0 119 "LockStaircase$Canal" "barred" "Z" ∈ lk_AW := lk_in1 (List.mem_of_getElem? (i := 91) rfl) rfl
theorem fX8_311 : Cond.fieldLink RX8 311 "LockStaircase$Canal" "barred" "Z" ∈ lk_AW := lk_in1 (List.mem_of_getElem? (i := 92) rfl) rfl
theorem fX2_11 : Cond.fieldLink RX2 11 "LockStaircase$Fleet" "name" "[I" ∈ lk_AW := lk_in1 (List.mem_of_getElem? (i := 126) rfl) rfl
theorem fX2_15 : Cond.fieldLink RX2 15 "LockStaircase$Fleet" "size" "[I" ∈ lk_AW := lk_in1 (List.mem_of_getElem? (i := 127) rfl) rfl
theorem fX8_195 : Cond.fieldLink RX8 195 "LockStaircase$Fleet" "size" "[I" ∈ lk_AW := lk_in1 (List.mem_of_getElem? (i := 128) rfl) rfl
theorem fX2_18 : Cond.fieldLink RX2 18 "LockStaircase$Fleet" "rank" "[I" ∈ lk_AW := lk_in1 (List.mem_of_getElem? (i := 129) rfl) rfl
theorem fX2_21 : Cond.fieldLink RX2 21 "LockStaircase$Fleet" "up" "[Z" ∈ lk_AW := lk_in1 (List.mem_of_getElem? (i := 130) rfl) rfl
theorem fX3_25 : Cond.fieldLink RX3 25 "LockStaircase$Fleet" "up" "[Z" ∈ lk_AW := lk_in1 (List.mem_of_getElem? (i := 131) rfl) rfl
theorem fX8_182 : Cond.fieldLink RX8 182 "LockStaircase$Fleet" "up" "[Z" ∈ lk_AW := lk_in1 (List.mem_of_getElem? (i := 132) rfl) rfl
theorem fX2_25 : Cond.fieldLink RX2 25 "LockStaircase$Fleet" "reach" "[I" ∈ lk_AW := lk_in1 (List.mem_of_getElem? (i := 133) rfl) rfl
theorem fX3_22 : Cond.fieldLink RX3 22 "LockStaircase$Fleet" "reach" "[I" ∈ lk_AW := lk_in1 (List.mem_of_getElem? (i := 134) rfl) rfl
theorem fX8_187 : Cond.fieldLink RX8 187 "LockStaircase$Fleet" "reach" "[I" ∈ lk_AW := lk_in1 (List.mem_of_getElem? (i := 135) rfl) rfl
theorem fX2_28 : Cond.fieldLink RX2 28 "LockStaircase$Fleet" "count" "I" ∈ lk_AW := lk_in1 (List.mem_of_getElem? (i := 136) rfl) rfl
theorem fX8_76 : Cond.fieldLink RX8 76 "LockStaircase$Fleet" "count" "I" ∈ lk_AW := lk_in1 (List.mem_of_getElem? (i := 137) rfl) rfl
theorem fX3_21 : Cond.fieldLink RX3 21 "LockStaircase$Fleet" "count" "I" ∈ lk_AW := lk_in1 (List.mem_of_getElem? (i := 138) rfl) rfl
theorem fX6_9 : Cond.fieldLink RX6 9 "LockStaircase$Tape" "bytes" "[I" ∈ lk_AW := lk_in1 (List.mem_of_getElem? (i := 158) rfl) rfl
theorem fX6_13 : Cond.fieldLink RX6 13 "LockStaircase$Tape" "length" "I" ∈ lk_AW := lk_in1 (List.mem_of_getElem? (i := 159) rfl) rfl
theorem fX8_133 : Cond.fieldLink RX8 133 "LockStaircase$Tape" "length" "I" ∈ lk_AW := lk_in1 (List.mem_of_getElem? (i := 160) rfl) rfl
theorem fX6_17 : Cond.fieldLink RX6 17 "LockStaircase$Tape" "at" "I" ∈ lk_AW := lk_in1 (List.mem_of_getElem? (i := 161) rfl) rfl
theorem fX8_144 : Cond.fieldLink RX8 144 "LockStaircase$Tape" "at" "I" ∈ lk_AW := lk_in1 (List.mem_of_getElem? (i := 162) rfl) rfl
theorem fX2_38 : Cond.fieldLink RX2 38 "LockStaircase$Tape" "name" "I" ∈ lk_AW := lk_in1 (List.mem_of_getElem? (i := 163) rfl) rfl
theorem fX6_24 : Cond.fieldLink RX6 24 "LockStaircase$Tape" "name" "I" ∈ lk_AW := lk_in1 (List.mem_of_getElem? (i := 164) rfl) rfl
theorem fX2_50 : Cond.fieldLink RX2 50 "LockStaircase$Tape" "up" "Z" ∈ lk_AW := lk_in1 (List.mem_of_getElem? (i := 165) rfl) rfl
theorem fX6_47 : Cond.fieldLink RX6 47 "LockStaircase$Tape" "up" "Z" ∈ lk_AW := lk_in1 (List.mem_of_getElem? (i := 166) rfl) rfl
theorem fX2_46 : Cond.fieldLink RX2 46 "LockStaircase$Tape" "size" "I" ∈ lk_AW := lk_in1 (List.mem_of_getElem? (i := 167) rfl) rfl
theorem fX6_35 : Cond.fieldLink RX6 35 "LockStaircase$Tape" "size" "I" ∈ lk_AW := lk_in1 (List.mem_of_getElem? (i := 168) rfl) rfl
theorem fX2_48 : Cond.fieldLink RX2 48 "LockStaircase$Tape" "rank" "I" ∈ lk_AW := lk_in1 (List.mem_of_getElem? (i := 169) rfl) rfl
theorem fX6_38 : Cond.fieldLink RX6 38 "LockStaircase$Tape" "rank" "I" ∈ lk_AW := lk_in1 (List.mem_of_getElem? (i := 170) rfl) rfl
theorem fX2_53 : Cond.fieldLink RX2 53 "LockStaircase$Tape" "reach" "I" ∈ lk_AW := lk_in1 (List.mem_of_getElem? (i := 171) rfl) rfl
theorem fX6_41 : Cond.fieldLink RX6 41 "LockStaircase$Tape" "reach" "I" ∈ lk_AW := lk_in1 (List.mem_of_getElem? (i := 172) rfl) rfl
theorem fX3_11 : Cond.fieldLink RX3 11 "LockStaircase$Line" "boats" "[I" ∈ lk_AW := lk_in1 (List.mem_of_getElem? (i := 196) rfl) rfl
theorem fX7_9 : Cond.fieldLink RX7 9 "LockStaircase$Line" "count" "I" ∈ lk_AW := lk_in1 (List.mem_of_getElem? (i := 197) rfl) rfl
theorem fX3_17 : Cond.fieldLink RX3 17 "LockStaircase$Line" "count" "I" ∈ lk_AW := lk_in1 (List.mem_of_getElem? (i := 198) rfl) rfl
theorem fX4_21 : Cond.fieldLink RX4 21 "LockStaircase$Line" "count" "I" ∈ lk_AW := lk_in1 (List.mem_of_getElem? (i := 199) rfl) rfl
theorem fX8_227 : Cond.fieldLink RX8 227 "LockStaircase$Line" "count" "I" ∈ lk_AW := lk_in1 (List.mem_of_getElem? (i := 200) rfl) rfl
theorem fX4_9 : Cond.fieldLink RX4 9 "LockStaircase$RuleRun" "fromBelow" "I" ∈ lk_AW := lk_in1 (List.mem_of_getElem? (i := 212) rfl) rfl
theorem fX8_295 : Cond.fieldLink RX8 295 "LockStaircase$RuleRun" "fromBelow" "I" ∈ lk_AW := lk_in1 (List.mem_of_getElem? (i := 213) rfl) rfl
theorem fX4_15 : Cond.fieldLink RX4 15 "LockStaircase$RuleRun" "fromAbove" "I" ∈ lk_AW := lk_in1 (List.mem_of_getElem? (i := 214) rfl) rfl
theorem fX8_302 : Cond.fieldLink RX8 302 "LockStaircase$RuleRun" "fromAbove" "I" ∈ lk_AW := lk_in1 (List.mem_of_getElem? (i := 215) rfl) rfl
theorem fX4_18 : Cond.fieldLink RX4 18 "LockStaircase$RuleRun" "spent" "I" ∈ lk_AW := lk_in1 (List.mem_of_getElem? (i := 216) rfl) rfl
theorem fX8_282 : Cond.fieldLink RX8 282 "LockStaircase$RuleRun" "spent" "I" ∈ lk_AW := lk_in1 (List.mem_of_getElem? (i := 217) rfl) rfl
theorem fX7_26 : Cond.fieldLink RX7 26 "LockStaircase$Weaving" "boats" "I" ∈ lk_AW := lk_in1 (List.mem_of_getElem? (i := 231) rfl) rfl
theorem fX8_245 : Cond.fieldLink RX8 245 "LockStaircase$Weaving" "boats" "I" ∈ lk_AW := lk_in1 (List.mem_of_getElem? (i := 232) rfl) rfl
theorem fX7_23 : Cond.fieldLink RX7 23 "LockStaircase$Weaving" "fromAbove" "I" ∈ lk_AW := lk_in1 (List.mem_of_getElem? (i := 233) rfl) rfl
theorem fX7_29 : Cond.fieldLink RX7 29 "LockStaircase$Weaving" "good" "I" ∈ lk_AW := lk_in1 (List.mem_of_getElem? (i := 234) rfl) rfl
theorem fX8_238 : Cond.fieldLink RX8 238 "LockStaircase$Weaving" "good" "I" ∈ lk_AW := lk_in1 (List.mem_of_getElem? (i := 235) rfl) rfl
theorem fX7_32 : Cond.fieldLink RX7 32 "LockStaircase$Weaving" "leastSpent" "I" ∈ lk_AW := lk_in1 (List.mem_of_getElem? (i := 236) rfl) rfl
theorem fX8_267 : Cond.fieldLink RX8 267 "LockStaircase$Weaving" "leastSpent" "I" ∈ lk_AW := lk_in1 (List.mem_of_getElem? (i := 237) rfl) rfl
theorem fX7_35 : Cond.fieldLink RX7 35 "LockStaircase$Weaving" "bestMask" "I" ∈ lk_AW := lk_in1 (List.mem_of_getElem? (i := 238) rfl) rfl
theorem fX8_273 : Cond.fieldLink RX8 273 "LockStaircase$Weaving" "bestMask" "I" ∈ lk_AW := lk_in1 (List.mem_of_getElem? (i := 239) rfl) rfl
theorem lX8_68 : Cond.methodLink RX8 68 yX0_reset ∈ lk_AW := lk_in2 (List.mem_of_getElem? (i := 11) rfl) rfl
theorem fX8_14 : Cond.fieldLink RX8 14 "LockStaircase" "canal" "LLockStaircase$Canal;" ∈ lk_AW := lk_in2 (List.mem_of_getElem? (i := 15) rfl) rfl
theorem fX8_21 : Cond.fieldLink RX8 21 "LockStaircase" "fleet" "LLockStaircase$Fleet;" ∈ lk_AW := lk_in2 (List.mem_of_getElem? (i := 16) rfl) rfl
theorem fX8_28 : Cond.fieldLink RX8 28 "LockStaircase" "tape" "LLockStaircase$Tape;" ∈ lk_AW := lk_in2 (List.mem_of_getElem? (i := 17) rfl) rfl
theorem fX8_347 : Cond.fieldLink RX8 347 "LockStaircase" "accountNow" "J" ∈ lk_AW := lk_in2 (List.mem_of_getElem? (i := 18) rfl) rfl
theorem fX8_32 : Cond.fieldLink RX8 32 "LockStaircase" "imageCanal" "LLockStaircase$Canal;" ∈ lk_AW := lk_in2 (List.mem_of_getElem? (i := 19) rfl) rfl
theorem fX8_35 : Cond.fieldLink RX8 35 "LockStaircase" "imageFleet" "LLockStaircase$Fleet;" ∈ lk_AW := lk_in2 (List.mem_of_getElem? (i := 20) rfl) rfl
theorem fX8_351 : Cond.fieldLink RX8 351 "LockStaircase" "imageAccount" "J" ∈ lk_AW := lk_in2 (List.mem_of_getElem? (i := 21) rfl) rfl
theorem fX8_354 : Cond.fieldLink RX8 354 "LockStaircase" "imageTaken" "Z" ∈ lk_AW := lk_in2 (List.mem_of_getElem? (i := 22) rfl) rfl
theorem fX8_38 : Cond.fieldLink RX8 38 "LockStaircase" "thought" "LLockStaircase$Canal;" ∈ lk_AW := lk_in2 (List.mem_of_getElem? (i := 23) rfl) rfl
theorem fX8_41 : Cond.fieldLink RX8 41 "LockStaircase" "thoughtFleet" "LLockStaircase$Fleet;" ∈ lk_AW := lk_in2 (List.mem_of_getElem? (i := 24) rfl) rfl
theorem fX8_47 : Cond.fieldLink RX8 47 "LockStaircase" "below" "LLockStaircase$Line;" ∈ lk_AW := lk_in2 (List.mem_of_getElem? (i := 25) rfl) rfl
theorem fX8_51 : Cond.fieldLink RX8 51 "LockStaircase" "above" "LLockStaircase$Line;" ∈ lk_AW := lk_in2 (List.mem_of_getElem? (i := 26) rfl) rfl
theorem fX8_57 : Cond.fieldLink RX8 57 "LockStaircase" "ruleRun" "LLockStaircase$RuleRun;" ∈ lk_AW := lk_in2 (List.mem_of_getElem? (i := 27) rfl) rfl
theorem fX8_64 : Cond.fieldLink RX8 64 "LockStaircase" "weaving" "LLockStaircase$Weaving;" ∈ lk_AW := lk_in2 (List.mem_of_getElem? (i := 28) rfl) rfl
theorem lL_13 : Cond.methodLink RL 13 yX8_locks ∈ lk_AW := lk_in2 (List.mem_of_getElem? (i := 58) rfl) rfl
theorem lL_18 : Cond.methodLink RL 18 yX8_lock ∈ lk_AW := lk_in2 (List.mem_of_getElem? (i := 62) rfl) rfl
theorem lX8_79 : Cond.methodLink RX8 79 yX0_hasLock ∈ lk_AW := lk_in2 (List.mem_of_getElem? (i := 66) rfl) rfl
theorem lX8_83 : Cond.methodLink RX8 83 yX8_isLockSetting ∈ lk_AW := lk_in2 (List.mem_of_getElem? (i := 70) rfl) rfl
theorem lX8_87 : Cond.methodLink RX8 87 yX0_isAtRest ∈ lk_AW := lk_in2 (List.mem_of_getElem? (i := 73) rfl) rfl
theorem lX8_90 : Cond.methodLink RX8 90 yX0_lockNumber ∈ lk_AW := lk_in2 (List.mem_of_getElem? (i := 77) rfl) rfl
theorem lX0_72 : Cond.methodLink RX0 72 yX0_share ∈ lk_AW := lk_in2 (List.mem_of_getElem? (i := 81) rfl) rfl
theorem lL_23 : Cond.methodLink RL 23 yX8_ofLock ∈ lk_AW := lk_in2 (List.mem_of_getElem? (i := 85) rfl) rfl
theorem lL_28 : Cond.methodLink RL 28 yX8_reach ∈ lk_AW := lk_in2 (List.mem_of_getElem? (i := 89) rfl) rfl
theorem lX8_101 : Cond.methodLink RX8 101 yX0_hasReach ∈ lk_AW := lk_in2 (List.mem_of_getElem? (i := 93) rfl) rfl
theorem lX8_104 : Cond.methodLink RX8 104 yX8_isReachSetting ∈ lk_AW := lk_in2 (List.mem_of_getElem? (i := 97) rfl) rfl
theorem lX8_116 : Cond.methodLink RX8 116 yX0_reachNumber ∈ lk_AW := lk_in2 (List.mem_of_getElem? (i := 100) rfl) rfl
theorem lX8_119 : Cond.methodLink RX8 119 yX0_setReach ∈ lk_AW := lk_in2 (List.mem_of_getElem? (i := 104) rfl) rfl
theorem lL_32 : Cond.methodLink RL 32 yX8_ofReach ∈ lk_AW := lk_in2 (List.mem_of_getElem? (i := 108) rfl) rfl
theorem lX8_123 : Cond.methodLink RX8 123 yX2_countIn ∈ lk_AW := lk_in2 (List.mem_of_getElem? (i := 112) rfl) rfl
theorem lL_36 : Cond.methodLink RL 36 yX8_feeds ∈ lk_AW := lk_in2 (List.mem_of_getElem? (i := 116) rfl) rfl
theorem lL_40 : Cond.methodLink RL 40 yX8_feed ∈ lk_AW := lk_in2 (List.mem_of_getElem? (i := 120) rfl) rfl
theorem lX8_130 : Cond.methodLink RX8 130 yX6_append ∈ lk_AW := lk_in2 (List.mem_of_getElem? (i := 124) rfl) rfl
theorem lL_44 : Cond.methodLink RL 44 yX8_boats ∈ lk_AW := lk_in2 (List.mem_of_getElem? (i := 128) rfl) rfl
theorem lX8_136 : Cond.methodLink RX8 136 yX8_readBoats ∈ lk_AW := lk_in2 (List.mem_of_getElem? (i := 132) rfl) rfl
theorem lX8_140 : Cond.methodLink RX8 140 yX2_copyFrom ∈ lk_AW := lk_in2 (List.mem_of_getElem? (i := 136) rfl) rfl
theorem lX2_32 : Cond.methodLink RX2 32 arraycopyName ∈ lk_AW := lk_in2 (List.mem_of_getElem? (i := 140) rfl) rfl
theorem lX8_147 : Cond.methodLink RX8 147 yX6_readBoat ∈ lk_AW := lk_in2 (List.mem_of_getElem? (i := 143) rfl) rfl
theorem lX6_20 : Cond.methodLink RX6 20 yX6_readName ∈ lk_AW := lk_in2 (List.mem_of_getElem? (i := 147) rfl) rfl
theorem lX6_44 : Cond.methodLink RX6 44 yX6_current ∈ lk_AW := lk_in2 (List.mem_of_getElem? (i := 151) rfl) rfl
theorem lX6_27 : Cond.methodLink RX6 27 yX6_readWay ∈ lk_AW := lk_in2 (List.mem_of_getElem? (i := 155) rfl) rfl
theorem lX6_31 : Cond.methodLink RX6 31 yX6_readFigure ∈ lk_AW := lk_in2 (List.mem_of_getElem? (i := 159) rfl) rfl
theorem lX8_150 : Cond.methodLink RX8 150 yX2_put ∈ lk_AW := lk_in2 (List.mem_of_getElem? (i := 163) rfl) rfl
theorem lX2_42 : Cond.methodLink RX2 42 yX2_placeFor ∈ lk_AW := lk_in2 (List.mem_of_getElem? (i := 167) rfl) rfl
theorem lX2_55 : Cond.methodLink RX2 55 yX2_copyRow ∈ lk_AW := lk_in2 (List.mem_of_getElem? (i := 171) rfl) rfl
theorem lX8_154 : Cond.methodLink RX8 154 yX6_isAtEnd ∈ lk_AW := lk_in2 (List.mem_of_getElem? (i := 175) rfl) rfl
theorem lX8_158 : Cond.methodLink RX8 158 yX8_takeFleetInThought ∈ lk_AW := lk_in2 (List.mem_of_getElem? (i := 179) rfl) rfl
theorem lX8_161 : Cond.methodLink RX8 161 yX6_readComma ∈ lk_AW := lk_in2 (List.mem_of_getElem? (i := 183) rfl) rfl
theorem lL_49 : Cond.methodLink RL 49 yX8_boat ∈ lk_AW := lk_in2 (List.mem_of_getElem? (i := 187) rfl) rfl
theorem lX8_164 : Cond.methodLink RX8 164 yX2_has ∈ lk_AW := lk_in2 (List.mem_of_getElem? (i := 191) rfl) rfl
theorem lX8_167 : Cond.methodLink RX8 167 yX2_number ∈ lk_AW := lk_in2 (List.mem_of_getElem? (i := 195) rfl) rfl
theorem lX2_63 : Cond.methodLink RX2 63 yX2_letterCount ∈ lk_AW := lk_in2 (List.mem_of_getElem? (i := 199) rfl) rfl
theorem lX2_66 : Cond.methodLink RX2 66 yX2_letter ∈ lk_AW := lk_in2 (List.mem_of_getElem? (i := 203) rfl) rfl
theorem lX2_59 : Cond.methodLink RX2 59 yX2_has ∈ lk_AW := lk_in2 (List.mem_of_getElem? (i := 207) rfl) rfl
theorem lX8_170 : Cond.methodLink RX8 170 yX2_letter ∈ lk_AW := lk_in2 (List.mem_of_getElem? (i := 208) rfl) rfl
theorem lL_53 : Cond.methodLink RL 53 yX8_find ∈ lk_AW := lk_in2 (List.mem_of_getElem? (i := 209) rfl) rfl
theorem lX8_173 : Cond.methodLink RX8 173 yX6_readName ∈ lk_AW := lk_in2 (List.mem_of_getElem? (i := 213) rfl) rfl
theorem lX8_176 : Cond.methodLink RX8 176 yX2_numberOf ∈ lk_AW := lk_in2 (List.mem_of_getElem? (i := 214) rfl) rfl
theorem lL_57 : Cond.methodLink RL 57 yX8_leaves ∈ lk_AW := lk_in2 (List.mem_of_getElem? (i := 218) rfl) rfl
theorem lX8_179 : Cond.methodLink RX8 179 yX2_remove ∈ lk_AW := lk_in2 (List.mem_of_getElem? (i := 222) rfl) rfl
theorem lL_61 : Cond.methodLink RL 61 yX8_about ∈ lk_AW := lk_in2 (List.mem_of_getElem? (i := 226) rfl) rfl
theorem lL_65 : Cond.methodLink RL 65 yX8_pass ∈ lk_AW := lk_in2 (List.mem_of_getElem? (i := 230) rfl) rfl
theorem kX8_186 : Cond.constant RX8 186 (-2000000) ∈ lk_AW := lk_in2 (List.mem_of_getElem? (i := 234) rfl) rfl
theorem lX8_190 : Cond.methodLink RX8 190 yX0_lockFrom ∈ lk_AW := lk_in2 (List.mem_of_getElem? (i := 235) rfl) rfl
theorem kX8_194 : Cond.constant RX8 194 (-2000001) ∈ lk_AW := lk_in2 (List.mem_of_getElem? (i := 238) rfl) rfl
theorem lX8_198 : Cond.methodLink RX8 198 yX0_passage ∈ lk_AW := lk_in2 (List.mem_of_getElem? (i := 239) rfl) rfl
theorem lX0_68 : Cond.methodLink RX0 68 yX0_hasLock ∈ lk_AW := lk_in3 (List.mem_of_getElem? (i := 3) rfl) rfl
theorem kX0_76 : Cond.constant RX0 76 (-2000002) ∈ lk_AW := lk_in3 (List.mem_of_getElem? (i := 4) rfl) rfl
theorem lX0_77 : Cond.methodLink RX0 77 yX0_empties ∈ lk_AW := lk_in3 (List.mem_of_getElem? (i := 5) rfl) rfl
theorem lX0_91 : Cond.methodLink RX0 91 yX0_isBarred ∈ lk_AW := lk_in3 (List.mem_of_getElem? (i := 9) rfl) rfl
theorem lX0_80 : Cond.methodLink RX0 80 yX0_fills ∈ lk_AW := lk_in3 (List.mem_of_getElem? (i := 13) rfl) rfl
theorem lX0_83 : Cond.methodLink RX0 83 yX0_swaps ∈ lk_AW := lk_in3 (List.mem_of_getElem? (i := 17) rfl) rfl
theorem lX0_87 : Cond.methodLink RX0 87 yX5_add ∈ lk_AW := lk_in3 (List.mem_of_getElem? (i := 21) rfl) rfl
theorem kX8_202 : Cond.constant RX8 202 (-2000002) ∈ lk_AW := lk_in3 (List.mem_of_getElem? (i := 25) rfl) rfl
theorem lX8_203 : Cond.methodLink RX8 203 yX2_moveOn ∈ lk_AW := lk_in3 (List.mem_of_getElem? (i := 26) rfl) rfl
theorem lL_69 : Cond.methodLink RL 69 yX8_through ∈ lk_AW := lk_in3 (List.mem_of_getElem? (i := 30) rfl) rfl
theorem lX8_207 : Cond.methodLink RX8 207 yX0_travel ∈ lk_AW := lk_in3 (List.mem_of_getElem? (i := 34) rfl) rfl
theorem lX0_111 : Cond.methodLink RX0 111 yX0_lockFrom ∈ lk_AW := lk_in3 (List.mem_of_getElem? (i := 38) rfl) rfl
theorem lX0_115 : Cond.methodLink RX0 115 yX0_passage ∈ lk_AW := lk_in3 (List.mem_of_getElem? (i := 39) rfl) rfl
theorem lL_73 : Cond.methodLink RL 73 yX8_costs ∈ lk_AW := lk_in3 (List.mem_of_getElem? (i := 40) rfl) rfl
theorem lX8_210 : Cond.methodLink RX8 210 yX0_copyFrom ∈ lk_AW := lk_in3 (List.mem_of_getElem? (i := 44) rfl) rfl
theorem lX0_58 : Cond.methodLink RX0 58 arraycopyName ∈ lk_AW := lk_in3 (List.mem_of_getElem? (i := 48) rfl) rfl
theorem lX0_64 : Cond.methodLink RX0 64 yX5_copyFrom ∈ lk_AW := lk_in3 (List.mem_of_getElem? (i := 49) rfl) rfl
theorem lX5_15 : Cond.methodLink RX5 15 arraycopyName ∈ lk_AW := lk_in3 (List.mem_of_getElem? (i := 53) rfl) rfl
theorem lX8_213 : Cond.methodLink RX8 213 yX0_summitWater ∈ lk_AW := lk_in3 (List.mem_of_getElem? (i := 54) rfl) rfl
theorem lL_77 : Cond.methodLink RL 77 yX8_why ∈ lk_AW := lk_in3 (List.mem_of_getElem? (i := 58) rfl) rfl
theorem lX8_220 : Cond.methodLink RX8 220 yX1_number ∈ lk_AW := lk_in3 (List.mem_of_getElem? (i := 62) rfl) rfl
theorem lL_81 : Cond.methodLink RL 81 yX8_queue ∈ lk_AW := lk_in3 (List.mem_of_getElem? (i := 66) rfl) rfl
theorem lX8_224 : Cond.methodLink RX8 224 yX8_lineUp ∈ lk_AW := lk_in3 (List.mem_of_getElem? (i := 70) rfl) rfl
theorem lX8_231 : Cond.methodLink RX8 231 yX3_gather ∈ lk_AW := lk_in3 (List.mem_of_getElem? (i := 74) rfl) rfl
theorem lX3_29 : Cond.methodLink RX3 29 yX3_join ∈ lk_AW := lk_in3 (List.mem_of_getElem? (i := 78) rfl) rfl
theorem lX3_33 : Cond.methodLink RX3 33 yX2_rankOf ∈ lk_AW := lk_in3 (List.mem_of_getElem? (i := 82) rfl) rfl
theorem lX8_228 : Cond.methodLink RX8 228 yX3_boatAt ∈ lk_AW := lk_in3 (List.mem_of_getElem? (i := 86) rfl) rfl
theorem lL_85 : Cond.methodLink RL 85 yX8_orders ∈ lk_AW := lk_in3 (List.mem_of_getElem? (i := 90) rfl) rfl
theorem lX8_235 : Cond.methodLink RX8 235 yX8_weaveOrders ∈ lk_AW := lk_in3 (List.mem_of_getElem? (i := 94) rfl) rfl
theorem lX8_241 : Cond.methodLink RX8 241 yX7_begin ∈ lk_AW := lk_in3 (List.mem_of_getElem? (i := 98) rfl) rfl
theorem lX7_17 : Cond.methodLink RX7 17 yJ9_min_7cf53 ∈ lk_AW := lk_in3 (List.mem_of_getElem? (i := 102) rfl) rfl
theorem lX8_248 : Cond.methodLink RX8 248 yX7_isOrder ∈ lk_AW := lk_in3 (List.mem_of_getElem? (i := 105) rfl) rfl
theorem lX7_38 : Cond.methodLink RX7 38 yJ6_bitCount_0f7a4 ∈ lk_AW := lk_in3 (List.mem_of_getElem? (i := 109) rfl) rfl
theorem kJ6_265 : Cond.constant RJ6 265 (1431655765) ∈ lk_AW := lk_in3 (List.mem_of_getElem? (i := 112) rfl) rfl
theorem kJ6_266 : Cond.constant RJ6 266 (858993459) ∈ lk_AW := lk_in3 (List.mem_of_getElem? (i := 113) rfl) rfl
theorem kJ6_267 : Cond.constant RJ6 267 (252645135) ∈ lk_AW := lk_in3 (List.mem_of_getElem? (i := 114) rfl) rfl
theorem lX8_251 : Cond.methodLink RX8 251 yX0_copyLockFrom ∈ lk_AW := lk_in3 (List.mem_of_getElem? (i := 115) rfl) rfl
theorem lX8_255 : Cond.methodLink RX8 255 yX8_spentByOrder ∈ lk_AW := lk_in3 (List.mem_of_getElem? (i := 119) rfl) rfl
theorem lX8_261 : Cond.methodLink RX8 261 yX7_isFromBelow ∈ lk_AW := lk_in3 (List.mem_of_getElem? (i := 123) rfl) rfl
theorem lX8_264 : Cond.methodLink RX8 264 yX2_sizeOf ∈ lk_AW := lk_in3 (List.mem_of_getElem? (i := 127) rfl) rfl
theorem lX8_258 : Cond.methodLink RX8 258 yX7_weigh ∈ lk_AW := lk_in3 (List.mem_of_getElem? (i := 131) rfl) rfl
theorem kX7_44 : Cond.constant RX7 44 (-2000002) ∈ lk_AW := lk_in3 (List.mem_of_getElem? (i := 135) rfl) rfl
theorem lL_89 : Cond.methodLink RL 89 yX8_best ∈ lk_AW := lk_in3 (List.mem_of_getElem? (i := 136) rfl) rfl
theorem lX8_270 : Cond.methodLink RX8 270 yX8_boatOfBest ∈ lk_AW := lk_in3 (List.mem_of_getElem? (i := 140) rfl) rfl
theorem lL_93 : Cond.methodLink RL 93 yX8_ruled ∈ lk_AW := lk_in3 (List.mem_of_getElem? (i := 144) rfl) rfl
theorem lX8_276 : Cond.methodLink RX8 276 yX8_isRule ∈ lk_AW := lk_in3 (List.mem_of_getElem? (i := 148) rfl) rfl
theorem lX8_279 : Cond.methodLink RX8 279 yX8_runInThought ∈ lk_AW := lk_in3 (List.mem_of_getElem? (i := 151) rfl) rfl
theorem lX8_291 : Cond.methodLink RX8 291 yX4_go ∈ lk_AW := lk_in3 (List.mem_of_getElem? (i := 155) rfl) rfl
theorem lX4_26 : Cond.methodLink RX4 26 yX0_hasLock ∈ lk_AW := lk_in3 (List.mem_of_getElem? (i := 159) rfl) rfl
theorem lX4_36 : Cond.methodLink RX4 36 yX4_isFromBelowNext ∈ lk_AW := lk_in3 (List.mem_of_getElem? (i := 160) rfl) rfl
theorem lX4_40 : Cond.methodLink RX4 40 yX3_boatAt ∈ lk_AW := lk_in3 (List.mem_of_getElem? (i := 164) rfl) rfl
theorem lX4_54 : Cond.methodLink RX4 54 yX4_isAhead ∈ lk_AW := lk_in3 (List.mem_of_getElem? (i := 165) rfl) rfl
theorem lX4_58 : Cond.methodLink RX4 58 yX2_rankOf ∈ lk_AW := lk_in3 (List.mem_of_getElem? (i := 168) rfl) rfl
theorem lX4_44 : Cond.methodLink RX4 44 yX2_sizeOf ∈ lk_AW := lk_in3 (List.mem_of_getElem? (i := 169) rfl) rfl
theorem lX4_49 : Cond.methodLink RX4 49 yX0_passage ∈ lk_AW := lk_in3 (List.mem_of_getElem? (i := 170) rfl) rfl
theorem kX4_53 : Cond.constant RX4 53 (-2000002) ∈ lk_AW := lk_in3 (List.mem_of_getElem? (i := 171) rfl) rfl
theorem lX8_285 : Cond.methodLink RX8 285 yX4_done ∈ lk_AW := lk_in3 (List.mem_of_getElem? (i := 172) rfl) rfl
theorem lL_97 : Cond.methodLink RL 97 yX8_run ∈ lk_AW := lk_in3 (List.mem_of_getElem? (i := 176) rfl) rfl
theorem lX8_298 : Cond.methodLink RX8 298 yX8_moveOnFirst ∈ lk_AW := lk_in3 (List.mem_of_getElem? (i := 180) rfl) rfl
theorem lL_101 : Cond.methodLink RL 101 yX8_keeper ∈ lk_AW := lk_in3 (List.mem_of_getElem? (i := 184) rfl) rfl
theorem lL_105 : Cond.methodLink RL 105 yX8_day ∈ lk_AW := lk_in3 (List.mem_of_getElem? (i := 188) rfl) rfl
theorem lX8_305 : Cond.methodLink RX8 305 yX8_isTraffic ∈ lk_AW := lk_in3 (List.mem_of_getElem? (i := 192) rfl) rfl
theorem lX8_308 : Cond.methodLink RX8 308 yX0_wholeDay ∈ lk_AW := lk_in3 (List.mem_of_getElem? (i := 195) rfl) rfl
theorem lX0_122 : Cond.methodLink RX0 122 yX0_loseAndGain ∈ lk_AW := lk_in3 (List.mem_of_getElem? (i := 199) rfl) rfl
theorem lX0_128 : Cond.methodLink RX0 128 yJ9_max_7cf53 ∈ lk_AW := lk_in3 (List.mem_of_getElem? (i := 203) rfl) rfl
theorem lX0_134 : Cond.methodLink RX0 134 yJ9_min_7cf53 ∈ lk_AW := lk_in3 (List.mem_of_getElem? (i := 206) rfl) rfl
theorem lX0_125 : Cond.methodLink RX0 125 yX0_travel ∈ lk_AW := lk_in3 (List.mem_of_getElem? (i := 207) rfl) rfl
theorem lL_109 : Cond.methodLink RL 109 yX8_dry ∈ lk_AW := lk_in3 (List.mem_of_getElem? (i := 208) rfl) rfl
theorem lL_113 : Cond.methodLink RL 113 yX8_pond ∈ lk_AW := lk_in3 (List.mem_of_getElem? (i := 212) rfl) rfl
theorem lX8_318 : Cond.methodLink RX8 318 yX8_summitInThought ∈ lk_AW := lk_in3 (List.mem_of_getElem? (i := 216) rfl) rfl
theorem lL_117 : Cond.methodLink RL 117 yX8_water ∈ lk_AW := lk_in3 (List.mem_of_getElem? (i := 220) rfl) rfl
theorem lX8_322 : Cond.methodLink RX8 322 yX0_allWater ∈ lk_AW := lk_in3 (List.mem_of_getElem? (i := 224) rfl) rfl
theorem lL_121 : Cond.methodLink RL 121 yX8_levels ∈ lk_AW := lk_in3 (List.mem_of_getElem? (i := 228) rfl) rfl
theorem lX8_325 : Cond.methodLink RX8 325 yX0_leastLevelOver ∈ lk_AW := lk_in3 (List.mem_of_getElem? (i := 232) rfl) rfl
theorem lL_125 : Cond.methodLink RL 125 yX8_tally ∈ lk_AW := lk_in3 (List.mem_of_getElem? (i := 236) rfl) rfl
theorem lX8_332 : Cond.methodLink RX8 332 yX5_upTo ∈ lk_AW := lk_in4 (List.mem_of_getElem? (i := 0) rfl) rfl
theorem lX8_337 : Cond.methodLink RX8 337 yX5_unlike ∈ lk_AW := lk_in4 (List.mem_of_getElem? (i := 4) rfl) rfl
theorem lX8_340 : Cond.methodLink RX8 340 yX5_row ∈ lk_AW := lk_in4 (List.mem_of_getElem? (i := 8) rfl) rfl
theorem kX5_21 : Cond.constant RX5 21 (-2000001) ∈ lk_AW := lk_in4 (List.mem_of_getElem? (i := 12) rfl) rfl
theorem lL_131 : Cond.methodLink RL 131 yX8_pays ∈ lk_AW := lk_in4 (List.mem_of_getElem? (i := 13) rfl) rfl
theorem kX8_343 : Cond.constantLong RX8 343 (-1) ∈ lk_AW := lk_in4 (List.mem_of_getElem? (i := 17) rfl) rfl
theorem kX8_345 : Cond.constantLong RX8 345 (-9223372036854775808) ∈ lk_AW := lk_in4 (List.mem_of_getElem? (i := 18) rfl) rfl
theorem lL_136 : Cond.methodLink RL 136 yX8_account ∈ lk_AW := lk_in4 (List.mem_of_getElem? (i := 19) rfl) rfl
theorem lL_141 : Cond.methodLink RL 141 yX8_image ∈ lk_AW := lk_in4 (List.mem_of_getElem? (i := 23) rfl) rfl
theorem lL_145 : Cond.methodLink RL 145 yX8_undo ∈ lk_AW := lk_in4 (List.mem_of_getElem? (i := 27) rfl) rfl
theorem lL_149 : Cond.methodLink RL 149 yX8_count ∈ lk_AW := lk_in4 (List.mem_of_getElem? (i := 31) rfl) rfl
theorem lX8_357 : Cond.methodLink RX8 357 yX0_fullLocks ∈ lk_AW := lk_in4 (List.mem_of_getElem? (i := 35) rfl) rfl
theorem lX9_42 : Cond.methodLink RX9 42 yX9_begins ∈ lk_AW := lk_in4 (List.mem_of_getElem? (i := 45) rfl) rfl
theorem fX9_9 : Cond.fieldLink RX9 9 "LockStaircaseModel" "now" "[I" ∈ lk_AW := lk_in4 (List.mem_of_getElem? (i := 49) rfl) rfl
theorem fX9_15 : Cond.fieldLink RX9 15 "LockStaircaseModel" "old" "[I" ∈ lk_AW := lk_in4 (List.mem_of_getElem? (i := 50) rfl) rfl
theorem fX9_18 : Cond.fieldLink RX9 18 "LockStaircaseModel" "ahead" "[I" ∈ lk_AW := lk_in4 (List.mem_of_getElem? (i := 51) rfl) rfl
theorem fX9_241 : Cond.fieldLink RX9 241 "LockStaircaseModel" "imaged" "Z" ∈ lk_AW := lk_in4 (List.mem_of_getElem? (i := 52) rfl) rfl
theorem fX9_237 : Cond.fieldLink RX9 237 "LockStaircaseModel" "account" "J" ∈ lk_AW := lk_in4 (List.mem_of_getElem? (i := 53) rfl) rfl
theorem fX9_244 : Cond.fieldLink RX9 244 "LockStaircaseModel" "oldAccount" "J" ∈ lk_AW := lk_in4 (List.mem_of_getElem? (i := 54) rfl) rfl
theorem fX9_137 : Cond.fieldLink RX9 137 "LockStaircaseModel" "spent" "I" ∈ lk_AW := lk_in4 (List.mem_of_getElem? (i := 55) rfl) rfl
theorem fX9_118 : Cond.fieldLink RX9 118 "LockStaircaseModel" "step" "I" ∈ lk_AW := lk_in4 (List.mem_of_getElem? (i := 56) rfl) rfl
theorem fX9_121 : Cond.fieldLink RX9 121 "LockStaircaseModel" "at" "I" ∈ lk_AW := lk_in4 (List.mem_of_getElem? (i := 57) rfl) rfl
theorem fX9_124 : Cond.fieldLink RX9 124 "LockStaircaseModel" "side" "I" ∈ lk_AW := lk_in4 (List.mem_of_getElem? (i := 58) rfl) rfl
theorem fX9_144 : Cond.fieldLink RX9 144 "LockStaircaseModel" "wasBarred" "Z" ∈ lk_AW := lk_in4 (List.mem_of_getElem? (i := 59) rfl) rfl
theorem fX9_21 : Cond.fieldLink RX9 21 "LockStaircaseModel" "cause" "[I" ∈ lk_AW := lk_in4 (List.mem_of_getElem? (i := 60) rfl) rfl
theorem fX9_65 : Cond.fieldLink RX9 65 "LockStaircaseModel" "taped" "I" ∈ lk_AW := lk_in4 (List.mem_of_getElem? (i := 61) rfl) rfl
theorem fX9_24 : Cond.fieldLink RX9 24 "LockStaircaseModel" "tape" "[I" ∈ lk_AW := lk_in4 (List.mem_of_getElem? (i := 62) rfl) rfl
theorem fX9_72 : Cond.fieldLink RX9 72 "LockStaircaseModel" "place" "I" ∈ lk_AW := lk_in4 (List.mem_of_getElem? (i := 63) rfl) rfl
theorem fX9_69 : Cond.fieldLink RX9 69 "LockStaircaseModel" "fault" "I" ∈ lk_AW := lk_in4 (List.mem_of_getElem? (i := 64) rfl) rfl
theorem fX9_27 : Cond.fieldLink RX9 27 "LockStaircaseModel" "read" "[I" ∈ lk_AW := lk_in4 (List.mem_of_getElem? (i := 65) rfl) rfl
theorem fX9_82 : Cond.fieldLink RX9 82 "LockStaircaseModel" "told" "I" ∈ lk_AW := lk_in4 (List.mem_of_getElem? (i := 66) rfl) rfl
theorem fX9_168 : Cond.fieldLink RX9 168 "LockStaircaseModel" "below" "I" ∈ lk_AW := lk_in4 (List.mem_of_getElem? (i := 67) rfl) rfl
theorem fX9_171 : Cond.fieldLink RX9 171 "LockStaircaseModel" "above" "I" ∈ lk_AW := lk_in4 (List.mem_of_getElem? (i := 68) rfl) rfl
theorem fX9_30 : Cond.fieldLink RX9 30 "LockStaircaseModel" "ones" "[I" ∈ lk_AW := lk_in4 (List.mem_of_getElem? (i := 69) rfl) rfl
theorem fX9_33 : Cond.fieldLink RX9 33 "LockStaircaseModel" "others" "[I" ∈ lk_AW := lk_in4 (List.mem_of_getElem? (i := 70) rfl) rfl
theorem fX9_196 : Cond.fieldLink RX9 196 "LockStaircaseModel" "done" "I" ∈ lk_AW := lk_in4 (List.mem_of_getElem? (i := 71) rfl) rfl
theorem fX9_199 : Cond.fieldLink RX9 199 "LockStaircaseModel" "sum" "I" ∈ lk_AW := lk_in4 (List.mem_of_getElem? (i := 72) rfl) rfl
theorem fX9_209 : Cond.fieldLink RX9 209 "LockStaircaseModel" "ended" "I" ∈ lk_AW := lk_in4 (List.mem_of_getElem? (i := 73) rfl) rfl
theorem fX9_182 : Cond.fieldLink RX9 182 "LockStaircaseModel" "good" "I" ∈ lk_AW := lk_in4 (List.mem_of_getElem? (i := 74) rfl) rfl
theorem fX9_185 : Cond.fieldLink RX9 185 "LockStaircaseModel" "best" "I" ∈ lk_AW := lk_in4 (List.mem_of_getElem? (i := 75) rfl) rfl
theorem fX9_36 : Cond.fieldLink RX9 36 "LockStaircaseModel" "row" "[I" ∈ lk_AW := lk_in4 (List.mem_of_getElem? (i := 76) rfl) rfl
theorem fX9_39 : Cond.fieldLink RX9 39 "LockStaircaseModel" "bestRow" "[I" ∈ lk_AW := lk_in4 (List.mem_of_getElem? (i := 77) rfl) rfl
theorem lL_17 : Cond.methodLink RL 17 yX9_locks ∈ lk_AW := lk_in4 (List.mem_of_getElem? (i := 137) rfl) rfl
theorem lX9_46 : Cond.methodLink RX9 46 yX9_within ∈ lk_AW := lk_in4 (List.mem_of_getElem? (i := 141) rfl) rfl
theorem lL_22 : Cond.methodLink RL 22 yX9_lock ∈ lk_AW := lk_in4 (List.mem_of_getElem? (i := 144) rfl) rfl
theorem lX9_50 : Cond.methodLink RX9 50 yX9_isLock ∈ lk_AW := lk_in4 (List.mem_of_getElem? (i := 148) rfl) rfl
theorem lX9_54 : Cond.methodLink RX9 54 yX9_becomes ∈ lk_AW := lk_in4 (List.mem_of_getElem? (i := 152) rfl) rfl
theorem lL_27 : Cond.methodLink RL 27 yX9_ofLock ∈ lk_AW := lk_in4 (List.mem_of_getElem? (i := 156) rfl) rfl
theorem lX9_58 : Cond.methodLink RX9 58 yX9_share ∈ lk_AW := lk_in4 (List.mem_of_getElem? (i := 160) rfl) rfl
theorem lL_31 : Cond.methodLink RL 31 yX9_reach ∈ lk_AW := lk_in4 (List.mem_of_getElem? (i := 164) rfl) rfl
theorem lX9_62 : Cond.methodLink RX9 62 yX9_isReach ∈ lk_AW := lk_in4 (List.mem_of_getElem? (i := 168) rfl) rfl
theorem lL_35 : Cond.methodLink RL 35 yX9_ofReach ∈ lk_AW := lk_in4 (List.mem_of_getElem? (i := 172) rfl) rfl
theorem lL_39 : Cond.methodLink RL 39 yX9_feeds ∈ lk_AW := lk_in4 (List.mem_of_getElem? (i := 176) rfl) rfl
theorem lL_43 : Cond.methodLink RL 43 yX9_feed ∈ lk_AW := lk_in4 (List.mem_of_getElem? (i := 180) rfl) rfl
theorem lL_48 : Cond.methodLink RL 48 yX9_boats ∈ lk_AW := lk_in4 (List.mem_of_getElem? (i := 184) rfl) rfl
theorem lX9_102 : Cond.methodLink RX9 102 yX9_readsBoat ∈ lk_AW := lk_in4 (List.mem_of_getElem? (i := 188) rfl) rfl
theorem lX9_85 : Cond.methodLink RX9 85 yX9_name ∈ lk_AW := lk_in4 (List.mem_of_getElem? (i := 192) rfl) rfl
theorem lX9_75 : Cond.methodLink RX9 75 yX9_isFrom ∈ lk_AW := lk_in4 (List.mem_of_getElem? (i := 196) rfl) rfl
theorem lX9_79 : Cond.methodLink RX9 79 yX9_wrong ∈ lk_AW := lk_in4 (List.mem_of_getElem? (i := 200) rfl) rfl
theorem lX9_89 : Cond.methodLink RX9 89 yX9_figure ∈ lk_AW := lk_in4 (List.mem_of_getElem? (i := 204) rfl) rfl
theorem lX9_105 : Cond.methodLink RX9 105 yX9_pours ∈ lk_AW := lk_in4 (List.mem_of_getElem? (i := 208) rfl) rfl
theorem lX9_109 : Cond.methodLink RX9 109 yX9_comes ∈ lk_AW := lk_in4 (List.mem_of_getElem? (i := 211) rfl) rfl
theorem lX9_92 : Cond.methodLink RX9 92 yX9_where ∈ lk_AW := lk_in4 (List.mem_of_getElem? (i := 215) rfl) rfl
theorem lX9_95 : Cond.methodLink RX9 95 yX9_isThere ∈ lk_AW := lk_in4 (List.mem_of_getElem? (i := 219) rfl) rfl
theorem lX9_98 : Cond.methodLink RX9 98 yX9_shifts ∈ lk_AW := lk_in4 (List.mem_of_getElem? (i := 223) rfl) rfl
theorem lL_52 : Cond.methodLink RL 52 yX9_boat ∈ lk_AW := lk_in4 (List.mem_of_getElem? (i := 227) rfl) rfl
theorem lX9_112 : Cond.methodLink RX9 112 yX9_isBoat ∈ lk_AW := lk_in4 (List.mem_of_getElem? (i := 231) rfl) rfl
theorem lX9_115 : Cond.methodLink RX9 115 yX9_letter ∈ lk_AW := lk_in4 (List.mem_of_getElem? (i := 235) rfl) rfl
theorem lL_56 : Cond.methodLink RL 56 yX9_find ∈ lk_AW := lk_in4 (List.mem_of_getElem? (i := 238) rfl) rfl
theorem lL_60 : Cond.methodLink RL 60 yX9_leaves ∈ lk_AW := lk_in5 (List.mem_of_getElem? (i := 2) rfl) rfl
theorem lL_64 : Cond.methodLink RL 64 yX9_about ∈ lk_AW := lk_in5 (List.mem_of_getElem? (i := 6) rfl) rfl
theorem lL_68 : Cond.methodLink RL 68 yX9_pass ∈ lk_AW := lk_in5 (List.mem_of_getElem? (i := 10) rfl) rfl
theorem kX9_157 : Cond.constant RX9 157 (-2000000) ∈ lk_AW := lk_in5 (List.mem_of_getElem? (i := 14) rfl) rfl
theorem lX9_151 : Cond.methodLink RX9 151 yX9_lockOf ∈ lk_AW := lk_in5 (List.mem_of_getElem? (i := 15) rfl) rfl
theorem lX9_148 : Cond.methodLink RX9 148 yX9_isUp ∈ lk_AW := lk_in5 (List.mem_of_getElem? (i := 19) rfl) rfl
theorem kX9_158 : Cond.constant RX9 158 (-2000001) ∈ lk_AW := lk_in5 (List.mem_of_getElem? (i := 23) rfl) rfl
theorem lX9_159 : Cond.methodLink RX9 159 yX9_boatGoes ∈ lk_AW := lk_in5 (List.mem_of_getElem? (i := 24) rfl) rfl
theorem lX9_154 : Cond.methodLink RX9 154 yX9_goesTruly ∈ lk_AW := lk_in5 (List.mem_of_getElem? (i := 28) rfl) rfl
theorem lX9_140 : Cond.methodLink RX9 140 yX9_goes ∈ lk_AW := lk_in5 (List.mem_of_getElem? (i := 32) rfl) rfl
theorem lX9_131 : Cond.methodLink RX9 131 yX9_empties ∈ lk_AW := lk_in5 (List.mem_of_getElem? (i := 36) rfl) rfl
theorem lX9_127 : Cond.methodLink RX9 127 yX9_flows ∈ lk_AW := lk_in5 (List.mem_of_getElem? (i := 40) rfl) rfl
theorem lX9_134 : Cond.methodLink RX9 134 yX9_fills ∈ lk_AW := lk_in5 (List.mem_of_getElem? (i := 44) rfl) rfl
theorem kX9_163 : Cond.constant RX9 163 (-2000002) ∈ lk_AW := lk_in5 (List.mem_of_getElem? (i := 48) rfl) rfl
theorem lL_72 : Cond.methodLink RL 72 yX9_through ∈ lk_AW := lk_in5 (List.mem_of_getElem? (i := 49) rfl) rfl
theorem lL_76 : Cond.methodLink RL 76 yX9_costs ∈ lk_AW := lk_in5 (List.mem_of_getElem? (i := 53) rfl) rfl
theorem lL_80 : Cond.methodLink RL 80 yX9_why ∈ lk_AW := lk_in5 (List.mem_of_getElem? (i := 57) rfl) rfl
theorem lL_84 : Cond.methodLink RL 84 yX9_queue ∈ lk_AW := lk_in5 (List.mem_of_getElem? (i := 61) rfl) rfl
theorem lX9_174 : Cond.methodLink RX9 174 yX9_queuesOf ∈ lk_AW := lk_in5 (List.mem_of_getElem? (i := 65) rfl) rfl
theorem lX9_164 : Cond.methodLink RX9 164 yX9_queues ∈ lk_AW := lk_in5 (List.mem_of_getElem? (i := 69) rfl) rfl
theorem lL_88 : Cond.methodLink RL 88 yX9_orders ∈ lk_AW := lk_in5 (List.mem_of_getElem? (i := 73) rfl) rfl
theorem lX9_193 : Cond.methodLink RX9 193 yX9_weavesAll ∈ lk_AW := lk_in5 (List.mem_of_getElem? (i := 77) rfl) rfl
theorem kX9_192 : Cond.constant RX9 192 (1000000) ∈ lk_AW := lk_in5 (List.mem_of_getElem? (i := 81) rfl) rfl
theorem lX9_188 : Cond.methodLink RX9 188 yX9_weaves ∈ lk_AW := lk_in5 (List.mem_of_getElem? (i := 82) rfl) rfl
theorem lX9_177 : Cond.methodLink RX9 177 yJ9_min_7cf53 ∈ lk_AW := lk_in5 (List.mem_of_getElem? (i := 86) rfl) rfl
theorem lL_92 : Cond.methodLink RL 92 yX9_best ∈ lk_AW := lk_in5 (List.mem_of_getElem? (i := 87) rfl) rfl
theorem lL_96 : Cond.methodLink RL 96 yX9_ruled ∈ lk_AW := lk_in5 (List.mem_of_getElem? (i := 91) rfl) rfl
theorem lX9_205 : Cond.methodLink RX9 205 yX9_runs ∈ lk_AW := lk_in5 (List.mem_of_getElem? (i := 95) rfl) rfl
theorem lX9_202 : Cond.methodLink RX9 202 yX9_isFromBelow ∈ lk_AW := lk_in5 (List.mem_of_getElem? (i := 99) rfl) rfl
theorem lL_100 : Cond.methodLink RL 100 yX9_run ∈ lk_AW := lk_in5 (List.mem_of_getElem? (i := 103) rfl) rfl
theorem lL_104 : Cond.methodLink RL 104 yX9_keeper ∈ lk_AW := lk_in5 (List.mem_of_getElem? (i := 107) rfl) rfl
theorem lL_108 : Cond.methodLink RL 108 yX9_day ∈ lk_AW := lk_in5 (List.mem_of_getElem? (i := 111) rfl) rfl
theorem lX9_219 : Cond.methodLink RX9 219 yX9_isTraffic ∈ lk_AW := lk_in5 (List.mem_of_getElem? (i := 115) rfl) rfl
theorem lX9_222 : Cond.methodLink RX9 222 yX9_dayGoes ∈ lk_AW := lk_in5 (List.mem_of_getElem? (i := 118) rfl) rfl
theorem lX9_212 : Cond.methodLink RX9 212 yJ9_max_7cf53 ∈ lk_AW := lk_in5 (List.mem_of_getElem? (i := 122) rfl) rfl
theorem lX9_215 : Cond.methodLink RX9 215 yX9_crosses ∈ lk_AW := lk_in5 (List.mem_of_getElem? (i := 123) rfl) rfl
theorem lL_112 : Cond.methodLink RL 112 yX9_dry ∈ lk_AW := lk_in5 (List.mem_of_getElem? (i := 127) rfl) rfl
theorem lL_116 : Cond.methodLink RL 116 yX9_pond ∈ lk_AW := lk_in5 (List.mem_of_getElem? (i := 131) rfl) rfl
theorem lX9_225 : Cond.methodLink RX9 225 yX9_summit ∈ lk_AW := lk_in5 (List.mem_of_getElem? (i := 135) rfl) rfl
theorem lL_120 : Cond.methodLink RL 120 yX9_water ∈ lk_AW := lk_in5 (List.mem_of_getElem? (i := 139) rfl) rfl
theorem lL_124 : Cond.methodLink RL 124 yX9_levels ∈ lk_AW := lk_in5 (List.mem_of_getElem? (i := 143) rfl) rfl
theorem lL_128 : Cond.methodLink RL 128 yX9_tally ∈ lk_AW := lk_in5 (List.mem_of_getElem? (i := 147) rfl) rfl
theorem lL_135 : Cond.methodLink RL 135 yX9_pays ∈ lk_AW := lk_in5 (List.mem_of_getElem? (i := 151) rfl) rfl
theorem lX9_233 : Cond.methodLink RX9 233 yX9_isBeyond ∈ lk_AW := lk_in5 (List.mem_of_getElem? (i := 155) rfl) rfl
theorem kX9_229 : Cond.constantLong RX9 229 (-1) ∈ lk_AW := lk_in5 (List.mem_of_getElem? (i := 158) rfl) rfl
theorem kX9_231 : Cond.constantLong RX9 231 (-9223372036854775808) ∈ lk_AW := lk_in5 (List.mem_of_getElem? (i := 159) rfl) rfl
theorem lL_140 : Cond.methodLink RL 140 yX9_account ∈ lk_AW := lk_in5 (List.mem_of_getElem? (i := 160) rfl) rfl
theorem lL_144 : Cond.methodLink RL 144 yX9_image ∈ lk_AW := lk_in5 (List.mem_of_getElem? (i := 164) rfl) rfl
theorem lL_148 : Cond.methodLink RL 148 yX9_undo ∈ lk_AW := lk_in5 (List.mem_of_getElem? (i := 168) rfl) rfl
theorem lL_152 : Cond.methodLink RL 152 yX9_count ∈ lk_AW := lk_in5 (List.mem_of_getElem? (i := 172) rfl) rfl
theorem kL_129 : Cond.constantLong RL 129 (4294967295) ∈ lk_AW := lk_in5 (List.mem_of_getElem? (i := 176) rfl) rfl
theorem wNatC : Cond.native arraycopyName ∈ lk_AW := lk_in2 (List.mem_of_getElem? (i := 142) rfl) rfl
theorem wStaC : Cond.static arraycopyName ∈ lk_AW := lk_in2 (List.mem_of_getElem? (i := 141) rfl) rfl
theorem wIniC : Cond.initialized "java/lang/System" ∈ lk_AW := lk_in1 (List.mem_of_getElem? (i := 11) rfl) rfl
