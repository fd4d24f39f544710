/-! the words of the constructors (printed by wip/whole/ctor.py) -/
theorem wObjI : Cond.instanceMethod objectInit ∈ lk_AW := lk_in1 (List.mem_of_getElem? (i := 20) rfl) rfl
theorem wObjC : Cond.code objectInit ⟨#[0xb1]⟩ 1 none ∈ lk_AW := lk_in1 (List.mem_of_getElem? (i := 21) rfl) rfl
theorem wArrI : Cond.arrayClass .int ∈ lk_AW := lk_in1 (List.mem_of_getElem? (i := 38) rfl) rfl
theorem wArrZ : Cond.arrayClass .boolean ∈ lk_AW := lk_in1 (List.mem_of_getElem? (i := 39) rfl) rfl
abbrev mX0_init : lk_M := (yX0_init, cX0_init, 1, none)
theorem vX0_init : Cond.instanceMethod yX0_init ∈ lk_AW ∧ Cond.initialized RX0 ∈ lk_AW ∧ Cond.code yX0_init cX0_init 1 none ∈ lk_AW := ⟨lk_in1 (List.mem_of_getElem? (i := 25) rfl) rfl, lk_in1 (List.mem_of_getElem? (i := 2) rfl) rfl, lk_in1 (List.mem_of_getElem? (i := 26) rfl) rfl⟩
theorem nX0 : Cond.instantiable RX0 13 ∈ lk_AW := lk_in1 (List.mem_of_getElem? (i := 23) rfl) rfl
theorem oX0 : Cond.methodLink RX0 3 objectInit ∈ lk_AW := lk_in1 (List.mem_of_getElem? (i := 27) rfl) rfl
abbrev mX1_init : lk_M := (yX1_init, cX1_init, 1, none)
theorem vX1_init : Cond.instanceMethod yX1_init ∈ lk_AW ∧ Cond.initialized RX1 ∈ lk_AW ∧ Cond.code yX1_init cX1_init 1 none ∈ lk_AW := ⟨lk_in1 (List.mem_of_getElem? (i := 43) rfl) rfl, lk_in1 (List.mem_of_getElem? (i := 4) rfl) rfl, lk_in1 (List.mem_of_getElem? (i := 44) rfl) rfl⟩
theorem nX1 : Cond.instantiable RX1 5 ∈ lk_AW := lk_in1 (List.mem_of_getElem? (i := 41) rfl) rfl
theorem oX1 : Cond.methodLink RX1 3 objectInit ∈ lk_AW := lk_in1 (List.mem_of_getElem? (i := 45) rfl) rfl
abbrev mX2_init : lk_M := (yX2_init, cX2_init, 1, none)
theorem vX2_init : Cond.instanceMethod yX2_init ∈ lk_AW ∧ Cond.initialized RX2 ∈ lk_AW ∧ Cond.code yX2_init cX2_init 1 none ∈ lk_AW := ⟨lk_in1 (List.mem_of_getElem? (i := 123) rfl) rfl, lk_in1 (List.mem_of_getElem? (i := 5) rfl) rfl, lk_in1 (List.mem_of_getElem? (i := 124) rfl) rfl⟩
theorem nX2 : Cond.instantiable RX2 6 ∈ lk_AW := lk_in1 (List.mem_of_getElem? (i := 121) rfl) rfl
theorem oX2 : Cond.methodLink RX2 3 objectInit ∈ lk_AW := lk_in1 (List.mem_of_getElem? (i := 125) rfl) rfl
abbrev mX3_init : lk_M := (yX3_init, cX3_init, 1, none)
theorem vX3_init : Cond.instanceMethod yX3_init ∈ lk_AW ∧ Cond.initialized RX3 ∈ lk_AW ∧ Cond.code yX3_init cX3_init 1 none ∈ lk_AW := ⟨lk_in1 (List.mem_of_getElem? (i := 193) rfl) rfl, lk_in1 (List.mem_of_getElem? (i := 7) rfl) rfl, lk_in1 (List.mem_of_getElem? (i := 194) rfl) rfl⟩
theorem nX3 : Cond.instantiable RX3 2 ∈ lk_AW := lk_in1 (List.mem_of_getElem? (i := 191) rfl) rfl
theorem oX3 : Cond.methodLink RX3 3 objectInit ∈ lk_AW := lk_in1 (List.mem_of_getElem? (i := 195) rfl) rfl
abbrev mX4_init : lk_M := (yX4_init, cX4_init, 1, none)
theorem vX4_init : Cond.instanceMethod yX4_init ∈ lk_AW ∧ Cond.initialized RX4 ∈ lk_AW ∧ Cond.code yX4_init cX4_init 1 none ∈ lk_AW := ⟨lk_in1 (List.mem_of_getElem? (i := 209) rfl) rfl, lk_in1 (List.mem_of_getElem? (i := 8) rfl) rfl, lk_in1 (List.mem_of_getElem? (i := 210) rfl) rfl⟩
theorem nX4 : Cond.instantiable RX4 3 ∈ lk_AW := lk_in1 (List.mem_of_getElem? (i := 207) rfl) rfl
theorem oX4 : Cond.methodLink RX4 3 objectInit ∈ lk_AW := lk_in1 (List.mem_of_getElem? (i := 211) rfl) rfl
abbrev mX5_init : lk_M := (yX5_init, cX5_init, 1, none)
theorem vX5_init : Cond.instanceMethod yX5_init ∈ lk_AW ∧ Cond.initialized RX5 ∈ lk_AW ∧ Cond.code yX5_init cX5_init 1 none ∈ lk_AW := ⟨lk_in1 (List.mem_of_getElem? (i := 31) rfl) rfl, lk_in1 (List.mem_of_getElem? (i := 3) rfl) rfl, lk_in1 (List.mem_of_getElem? (i := 32) rfl) rfl⟩
theorem nX5 : Cond.instantiable RX5 1 ∈ lk_AW := lk_in1 (List.mem_of_getElem? (i := 29) rfl) rfl
theorem oX5 : Cond.methodLink RX5 3 objectInit ∈ lk_AW := lk_in1 (List.mem_of_getElem? (i := 33) rfl) rfl
abbrev mX6_init : lk_M := (yX6_init, cX6_init, 1, none)
theorem vX6_init : Cond.instanceMethod yX6_init ∈ lk_AW ∧ Cond.initialized RX6 ∈ lk_AW ∧ Cond.code yX6_init cX6_init 1 none ∈ lk_AW := ⟨lk_in1 (List.mem_of_getElem? (i := 155) rfl) rfl, lk_in1 (List.mem_of_getElem? (i := 6) rfl) rfl, lk_in1 (List.mem_of_getElem? (i := 156) rfl) rfl⟩
theorem nX6 : Cond.instantiable RX6 8 ∈ lk_AW := lk_in1 (List.mem_of_getElem? (i := 153) rfl) rfl
theorem oX6 : Cond.methodLink RX6 1 objectInit ∈ lk_AW := lk_in1 (List.mem_of_getElem? (i := 157) rfl) rfl
abbrev mX7_init : lk_M := (yX7_init, cX7_init, 1, none)
theorem vX7_init : Cond.instanceMethod yX7_init ∈ lk_AW ∧ Cond.initialized RX7 ∈ lk_AW ∧ Cond.code yX7_init cX7_init 1 none ∈ lk_AW := ⟨lk_in1 (List.mem_of_getElem? (i := 228) rfl) rfl, lk_in1 (List.mem_of_getElem? (i := 9) rfl) rfl, lk_in1 (List.mem_of_getElem? (i := 229) rfl) rfl⟩
theorem nX7 : Cond.instantiable RX7 5 ∈ lk_AW := lk_in1 (List.mem_of_getElem? (i := 226) rfl) rfl
theorem oX7 : Cond.methodLink RX7 3 objectInit ∈ lk_AW := lk_in1 (List.mem_of_getElem? (i := 230) rfl) rfl
abbrev mX8_init : lk_M := (yX8_init, cX8_init, 1, none)
theorem vX8_init : Cond.instanceMethod yX8_init ∈ lk_AW ∧ Cond.initialized RX8 ∈ lk_AW ∧ Cond.code yX8_init cX8_init 1 none ∈ lk_AW := ⟨lk_in1 (List.mem_of_getElem? (i := 17) rfl) rfl, lk_in1 (List.mem_of_getElem? (i := 1) rfl) rfl, lk_in1 (List.mem_of_getElem? (i := 18) rfl) rfl⟩
theorem nX8 : Cond.instantiable RX8 14 ∈ lk_AW := lk_in1 (List.mem_of_getElem? (i := 15) rfl) rfl
theorem oX8 : Cond.methodLink RX8 5 objectInit ∈ lk_AW := lk_in1 (List.mem_of_getElem? (i := 19) rfl) rfl
abbrev mX9_init : lk_M := (yX9_init, cX9_init, 1, none)
theorem vX9_init : Cond.instanceMethod yX9_init ∈ lk_AW ∧ Cond.initialized RX9 ∈ lk_AW ∧ Cond.code yX9_init cX9_init 1 none ∈ lk_AW := ⟨lk_in4 (List.mem_of_getElem? (i := 42) rfl) rfl, lk_in1 (List.mem_of_getElem? (i := 10) rfl) rfl, lk_in4 (List.mem_of_getElem? (i := 43) rfl) rfl⟩
theorem nX9 : Cond.instantiable RX9 29 ∈ lk_AW := lk_in4 (List.mem_of_getElem? (i := 40) rfl) rfl
theorem oX9 : Cond.methodLink RX9 3 objectInit ∈ lk_AW := lk_in4 (List.mem_of_getElem? (i := 44) rfl) rfl
theorem gL_7 : Cond.classLink RL 7 RX8 ∈ lk_AW := lk_in1 (List.mem_of_getElem? (i := 14) rfl) rfl
theorem gX8_11 : Cond.classLink RX8 11 RX0 ∈ lk_AW := lk_in1 (List.mem_of_getElem? (i := 22) rfl) rfl
theorem gX0_37 : Cond.classLink RX0 37 RX5 ∈ lk_AW := lk_in1 (List.mem_of_getElem? (i := 28) rfl) rfl
theorem gX0_44 : Cond.classLink RX0 44 RX1 ∈ lk_AW := lk_in1 (List.mem_of_getElem? (i := 40) rfl) rfl
theorem gX8_18 : Cond.classLink RX8 18 RX2 ∈ lk_AW := lk_in1 (List.mem_of_getElem? (i := 120) rfl) rfl
theorem gX8_25 : Cond.classLink RX8 25 RX6 ∈ lk_AW := lk_in1 (List.mem_of_getElem? (i := 152) rfl) rfl
theorem gX8_44 : Cond.classLink RX8 44 RX3 ∈ lk_AW := lk_in1 (List.mem_of_getElem? (i := 190) rfl) rfl
theorem gX8_54 : Cond.classLink RX8 54 RX4 ∈ lk_AW := lk_in1 (List.mem_of_getElem? (i := 206) rfl) rfl
theorem gX8_61 : Cond.classLink RX8 61 RX7 ∈ lk_AW := lk_in1 (List.mem_of_getElem? (i := 225) rfl) rfl
theorem gL_10 : Cond.classLink RL 10 RX9 ∈ lk_AW := lk_in4 (List.mem_of_getElem? (i := 39) rfl) rfl
theorem lLi_9 : Cond.methodLink RL 9 yX8_init ∈ lk_AW := lk_in1 (List.mem_of_getElem? (i := 16) rfl) rfl
theorem lLi_12 : Cond.methodLink RL 12 yX9_init ∈ lk_AW := lk_in4 (List.mem_of_getElem? (i := 41) rfl) rfl
