section
-- ===== PART A: goes FIRST, ahead of the names: the tables' words, and 'selects' of the private methods out of them =====
/-- a private method of a class that the tables say can be made, by its rows of tables_1 -/
def lw_okq (q : MethodName × Nat) : Prop := (q.1.cls ≠ "java/lang/invoke/MethodHandle" ∧ q.1.cls ≠ "java/lang/invoke/VarHandle") ∧ Cond.instantiable q.1.cls q.2 ∈ tables_1 ∧ Cond.privateMethod q.1 ∈ tables_1 ∧ Cond.instanceMethod q.1 ∈ tables_1
theorem lw_p0 : lw_okq (⟨"LockStaircase", "readBoats", "()I"⟩, 14) := ⟨⟨by decide +kernel, by decide +kernel⟩, List.mem_of_getElem? (i := 15) (by decide +kernel), List.mem_of_getElem? (i := 373) (by decide +kernel), List.mem_of_getElem? (i := 374) (by decide +kernel)⟩
theorem lw_p1 : lw_okq (⟨"LockStaircase$Tape", "current", "()I"⟩, 8) := ⟨⟨by decide +kernel, by decide +kernel⟩, List.mem_of_getElem? (i := 153) (by decide +kernel), List.mem_of_getElem? (i := 392) (by decide +kernel), List.mem_of_getElem? (i := 393) (by decide +kernel)⟩
theorem lw_p2 : lw_okq (⟨"LockStaircase$Tape", "readWay", "()Z"⟩, 8) := ⟨⟨by decide +kernel, by decide +kernel⟩, List.mem_of_getElem? (i := 153) (by decide +kernel), List.mem_of_getElem? (i := 396) (by decide +kernel), List.mem_of_getElem? (i := 397) (by decide +kernel)⟩
theorem lw_p3 : lw_okq (⟨"LockStaircase$Tape", "readFigure", "(I)I"⟩, 8) := ⟨⟨by decide +kernel, by decide +kernel⟩, List.mem_of_getElem? (i := 153) (by decide +kernel), List.mem_of_getElem? (i := 400) (by decide +kernel), List.mem_of_getElem? (i := 401) (by decide +kernel)⟩
theorem lw_p4 : lw_okq (⟨"LockStaircase$Fleet", "placeFor", "(I)I"⟩, 6) := ⟨⟨by decide +kernel, by decide +kernel⟩, List.mem_of_getElem? (i := 121) (by decide +kernel), List.mem_of_getElem? (i := 408) (by decide +kernel), List.mem_of_getElem? (i := 409) (by decide +kernel)⟩
theorem lw_p5 : lw_okq (⟨"LockStaircase$Fleet", "copyRow", "(II)V"⟩, 6) := ⟨⟨by decide +kernel, by decide +kernel⟩, List.mem_of_getElem? (i := 121) (by decide +kernel), List.mem_of_getElem? (i := 412) (by decide +kernel), List.mem_of_getElem? (i := 413) (by decide +kernel)⟩
theorem lw_p6 : lw_okq (⟨"LockStaircase", "takeFleetInThought", "(I)I"⟩, 14) := ⟨⟨by decide +kernel, by decide +kernel⟩, List.mem_of_getElem? (i := 15) (by decide +kernel), List.mem_of_getElem? (i := 420) (by decide +kernel), List.mem_of_getElem? (i := 421) (by decide +kernel)⟩
theorem lw_p7 : lw_okq (⟨"LockStaircase$Fleet", "letterCount", "(I)I"⟩, 6) := ⟨⟨by decide +kernel, by decide +kernel⟩, List.mem_of_getElem? (i := 121) (by decide +kernel), List.mem_of_getElem? (i := 440) (by decide +kernel), List.mem_of_getElem? (i := 441) (by decide +kernel)⟩
theorem lw_p8 : lw_okq (⟨"LockStaircase$Canal", "empties", "(I)Z"⟩, 13) := ⟨⟨by decide +kernel, by decide +kernel⟩, List.mem_of_getElem? (i := 23) (by decide +kernel), List.mem_of_getElem? (i := 486) (by decide +kernel), List.mem_of_getElem? (i := 487) (by decide +kernel)⟩
theorem lw_p9 : lw_okq (⟨"LockStaircase$Canal", "isBarred", "(IIII)Z"⟩, 13) := ⟨⟨by decide +kernel, by decide +kernel⟩, List.mem_of_getElem? (i := 23) (by decide +kernel), List.mem_of_getElem? (i := 490) (by decide +kernel), List.mem_of_getElem? (i := 491) (by decide +kernel)⟩
theorem lw_p10 : lw_okq (⟨"LockStaircase$Canal", "fills", "(I)Z"⟩, 13) := ⟨⟨by decide +kernel, by decide +kernel⟩, List.mem_of_getElem? (i := 23) (by decide +kernel), List.mem_of_getElem? (i := 494) (by decide +kernel), List.mem_of_getElem? (i := 495) (by decide +kernel)⟩
theorem lw_p11 : lw_okq (⟨"LockStaircase$Canal", "swaps", "(II)Z"⟩, 13) := ⟨⟨by decide +kernel, by decide +kernel⟩, List.mem_of_getElem? (i := 23) (by decide +kernel), List.mem_of_getElem? (i := 498) (by decide +kernel), List.mem_of_getElem? (i := 499) (by decide +kernel)⟩
theorem lw_p12 : lw_okq (⟨"LockStaircase", "lineUp", "(I)V"⟩, 14) := ⟨⟨by decide +kernel, by decide +kernel⟩, List.mem_of_getElem? (i := 15) (by decide +kernel), List.mem_of_getElem? (i := 551) (by decide +kernel), List.mem_of_getElem? (i := 552) (by decide +kernel)⟩
theorem lw_p13 : lw_okq (⟨"LockStaircase$Line", "join", "(LLockStaircase$Fleet;I)V"⟩, 2) := ⟨⟨by decide +kernel, by decide +kernel⟩, List.mem_of_getElem? (i := 191) (by decide +kernel), List.mem_of_getElem? (i := 559) (by decide +kernel), List.mem_of_getElem? (i := 560) (by decide +kernel)⟩
theorem lw_p14 : lw_okq (⟨"LockStaircase", "weaveOrders", "(I)V"⟩, 14) := ⟨⟨by decide +kernel, by decide +kernel⟩, List.mem_of_getElem? (i := 15) (by decide +kernel), List.mem_of_getElem? (i := 575) (by decide +kernel), List.mem_of_getElem? (i := 576) (by decide +kernel)⟩
theorem lw_p15 : lw_okq (⟨"LockStaircase", "spentByOrder", "(II)I"⟩, 14) := ⟨⟨by decide +kernel, by decide +kernel⟩, List.mem_of_getElem? (i := 15) (by decide +kernel), List.mem_of_getElem? (i := 600) (by decide +kernel), List.mem_of_getElem? (i := 601) (by decide +kernel)⟩
def lw_privs_1 : List (MethodName × Nat) := [(⟨"LockStaircase", "readBoats", "()I"⟩, 14), (⟨"LockStaircase$Tape", "current", "()I"⟩, 8), (⟨"LockStaircase$Tape", "readWay", "()Z"⟩, 8), (⟨"LockStaircase$Tape", "readFigure", "(I)I"⟩, 8), (⟨"LockStaircase$Fleet", "placeFor", "(I)I"⟩, 6), (⟨"LockStaircase$Fleet", "copyRow", "(II)V"⟩, 6), (⟨"LockStaircase", "takeFleetInThought", "(I)I"⟩, 14), (⟨"LockStaircase$Fleet", "letterCount", "(I)I"⟩, 6), (⟨"LockStaircase$Canal", "empties", "(I)Z"⟩, 13), (⟨"LockStaircase$Canal", "isBarred", "(IIII)Z"⟩, 13), (⟨"LockStaircase$Canal", "fills", "(I)Z"⟩, 13), (⟨"LockStaircase$Canal", "swaps", "(II)Z"⟩, 13), (⟨"LockStaircase", "lineUp", "(I)V"⟩, 14), (⟨"LockStaircase$Line", "join", "(LLockStaircase$Fleet;I)V"⟩, 2), (⟨"LockStaircase", "weaveOrders", "(I)V"⟩, 14), (⟨"LockStaircase", "spentByOrder", "(II)I"⟩, 14)]
theorem lw_r1 : ∀ q ∈ lw_privs_1, lw_okq q := List.forall_mem_cons.mpr ⟨lw_p0, List.forall_mem_cons.mpr ⟨lw_p1, List.forall_mem_cons.mpr ⟨lw_p2, List.forall_mem_cons.mpr ⟨lw_p3, List.forall_mem_cons.mpr ⟨lw_p4, List.forall_mem_cons.mpr ⟨lw_p5, List.forall_mem_cons.mpr ⟨lw_p6, List.forall_mem_cons.mpr ⟨lw_p7, List.forall_mem_cons.mpr ⟨lw_p8, List.forall_mem_cons.mpr ⟨lw_p9, List.forall_mem_cons.mpr ⟨lw_p10, List.forall_mem_cons.mpr ⟨lw_p11, List.forall_mem_cons.mpr ⟨lw_p12, List.forall_mem_cons.mpr ⟨lw_p13, List.forall_mem_cons.mpr ⟨lw_p14, List.forall_mem_cons.mpr ⟨lw_p15, fun _ h => absurd h List.not_mem_nil⟩⟩⟩⟩⟩⟩⟩⟩⟩⟩⟩⟩⟩⟩⟩⟩
theorem lw_p16 : lw_okq (⟨"LockStaircase", "boatOfBest", "(I)I"⟩, 14) := ⟨⟨by decide +kernel, by decide +kernel⟩, List.mem_of_getElem? (i := 15) (by decide +kernel), List.mem_of_getElem? (i := 621) (by decide +kernel), List.mem_of_getElem? (i := 622) (by decide +kernel)⟩
theorem lw_p17 : lw_okq (⟨"LockStaircase", "runInThought", "(II)V"⟩, 14) := ⟨⟨by decide +kernel, by decide +kernel⟩, List.mem_of_getElem? (i := 15) (by decide +kernel), List.mem_of_getElem? (i := 632) (by decide +kernel), List.mem_of_getElem? (i := 633) (by decide +kernel)⟩
theorem lw_p18 : lw_okq (⟨"LockStaircase$RuleRun", "isFromBelowNext", "(LLockStaircase$Fleet;LLockStaircase$Line;LLockStaircase$Line;ZI)Z"⟩, 3) := ⟨⟨by decide +kernel, by decide +kernel⟩, List.mem_of_getElem? (i := 207) (by decide +kernel), List.mem_of_getElem? (i := 641) (by decide +kernel), List.mem_of_getElem? (i := 642) (by decide +kernel)⟩
theorem lw_p19 : lw_okq (⟨"LockStaircase", "moveOnFirst", "(LLockStaircase$Line;I)V"⟩, 14) := ⟨⟨by decide +kernel, by decide +kernel⟩, List.mem_of_getElem? (i := 15) (by decide +kernel), List.mem_of_getElem? (i := 661) (by decide +kernel), List.mem_of_getElem? (i := 662) (by decide +kernel)⟩
theorem lw_p20 : lw_okq (⟨"LockStaircase$Canal", "loseAndGain", "()V"⟩, 13) := ⟨⟨by decide +kernel, by decide +kernel⟩, List.mem_of_getElem? (i := 23) (by decide +kernel), List.mem_of_getElem? (i := 680) (by decide +kernel), List.mem_of_getElem? (i := 681) (by decide +kernel)⟩
theorem lw_p21 : lw_okq (⟨"LockStaircase", "summitInThought", "(III)I"⟩, 14) := ⟨⟨by decide +kernel, by decide +kernel⟩, List.mem_of_getElem? (i := 15) (by decide +kernel), List.mem_of_getElem? (i := 697) (by decide +kernel), List.mem_of_getElem? (i := 698) (by decide +kernel)⟩
theorem lw_p22 : lw_okq (⟨"LockStaircaseModel", "begins", "(I)V"⟩, 29) := ⟨⟨by decide +kernel, by decide +kernel⟩, List.mem_of_getElem? (i := 760) (by decide +kernel), List.mem_of_getElem? (i := 766) (by decide +kernel), List.mem_of_getElem? (i := 767) (by decide +kernel)⟩
theorem lw_p23 : lw_okq (⟨"LockStaircaseModel", "isLock", "(I)Z"⟩, 29) := ⟨⟨by decide +kernel, by decide +kernel⟩, List.mem_of_getElem? (i := 760) (by decide +kernel), List.mem_of_getElem? (i := 869) (by decide +kernel), List.mem_of_getElem? (i := 870) (by decide +kernel)⟩
theorem lw_p24 : lw_okq (⟨"LockStaircaseModel", "becomes", "(II)I"⟩, 29) := ⟨⟨by decide +kernel, by decide +kernel⟩, List.mem_of_getElem? (i := 760) (by decide +kernel), List.mem_of_getElem? (i := 873) (by decide +kernel), List.mem_of_getElem? (i := 874) (by decide +kernel)⟩
theorem lw_p25 : lw_okq (⟨"LockStaircaseModel", "share", "(I)I"⟩, 29) := ⟨⟨by decide +kernel, by decide +kernel⟩, List.mem_of_getElem? (i := 760) (by decide +kernel), List.mem_of_getElem? (i := 881) (by decide +kernel), List.mem_of_getElem? (i := 882) (by decide +kernel)⟩
theorem lw_p26 : lw_okq (⟨"LockStaircaseModel", "isReach", "(I)Z"⟩, 29) := ⟨⟨by decide +kernel, by decide +kernel⟩, List.mem_of_getElem? (i := 760) (by decide +kernel), List.mem_of_getElem? (i := 889) (by decide +kernel), List.mem_of_getElem? (i := 890) (by decide +kernel)⟩
theorem lw_p27 : lw_okq (⟨"LockStaircaseModel", "readsBoat", "()V"⟩, 29) := ⟨⟨by decide +kernel, by decide +kernel⟩, List.mem_of_getElem? (i := 760) (by decide +kernel), List.mem_of_getElem? (i := 909) (by decide +kernel), List.mem_of_getElem? (i := 910) (by decide +kernel)⟩
theorem lw_p28 : lw_okq (⟨"LockStaircaseModel", "name", "()I"⟩, 29) := ⟨⟨by decide +kernel, by decide +kernel⟩, List.mem_of_getElem? (i := 760) (by decide +kernel), List.mem_of_getElem? (i := 913) (by decide +kernel), List.mem_of_getElem? (i := 914) (by decide +kernel)⟩
theorem lw_p29 : lw_okq (⟨"LockStaircaseModel", "isFrom", "(II)Z"⟩, 29) := ⟨⟨by decide +kernel, by decide +kernel⟩, List.mem_of_getElem? (i := 760) (by decide +kernel), List.mem_of_getElem? (i := 917) (by decide +kernel), List.mem_of_getElem? (i := 918) (by decide +kernel)⟩
theorem lw_p30 : lw_okq (⟨"LockStaircaseModel", "wrong", "()V"⟩, 29) := ⟨⟨by decide +kernel, by decide +kernel⟩, List.mem_of_getElem? (i := 760) (by decide +kernel), List.mem_of_getElem? (i := 921) (by decide +kernel), List.mem_of_getElem? (i := 922) (by decide +kernel)⟩
theorem lw_p31 : lw_okq (⟨"LockStaircaseModel", "figure", "(I)I"⟩, 29) := ⟨⟨by decide +kernel, by decide +kernel⟩, List.mem_of_getElem? (i := 760) (by decide +kernel), List.mem_of_getElem? (i := 925) (by decide +kernel), List.mem_of_getElem? (i := 926) (by decide +kernel)⟩
def lw_privs_2 : List (MethodName × Nat) := [(⟨"LockStaircase", "boatOfBest", "(I)I"⟩, 14), (⟨"LockStaircase", "runInThought", "(II)V"⟩, 14), (⟨"LockStaircase$RuleRun", "isFromBelowNext", "(LLockStaircase$Fleet;LLockStaircase$Line;LLockStaircase$Line;ZI)Z"⟩, 3), (⟨"LockStaircase", "moveOnFirst", "(LLockStaircase$Line;I)V"⟩, 14), (⟨"LockStaircase$Canal", "loseAndGain", "()V"⟩, 13), (⟨"LockStaircase", "summitInThought", "(III)I"⟩, 14), (⟨"LockStaircaseModel", "begins", "(I)V"⟩, 29), (⟨"LockStaircaseModel", "isLock", "(I)Z"⟩, 29), (⟨"LockStaircaseModel", "becomes", "(II)I"⟩, 29), (⟨"LockStaircaseModel", "share", "(I)I"⟩, 29), (⟨"LockStaircaseModel", "isReach", "(I)Z"⟩, 29), (⟨"LockStaircaseModel", "readsBoat", "()V"⟩, 29), (⟨"LockStaircaseModel", "name", "()I"⟩, 29), (⟨"LockStaircaseModel", "isFrom", "(II)Z"⟩, 29), (⟨"LockStaircaseModel", "wrong", "()V"⟩, 29), (⟨"LockStaircaseModel", "figure", "(I)I"⟩, 29)]
theorem lw_r2 : ∀ q ∈ lw_privs_2, lw_okq q := List.forall_mem_cons.mpr ⟨lw_p16, List.forall_mem_cons.mpr ⟨lw_p17, List.forall_mem_cons.mpr ⟨lw_p18, List.forall_mem_cons.mpr ⟨lw_p19, List.forall_mem_cons.mpr ⟨lw_p20, List.forall_mem_cons.mpr ⟨lw_p21, List.forall_mem_cons.mpr ⟨lw_p22, List.forall_mem_cons.mpr ⟨lw_p23, List.forall_mem_cons.mpr ⟨lw_p24, List.forall_mem_cons.mpr ⟨lw_p25, List.forall_mem_cons.mpr ⟨lw_p26, List.forall_mem_cons.mpr ⟨lw_p27, List.forall_mem_cons.mpr ⟨lw_p28, List.forall_mem_cons.mpr ⟨lw_p29, List.forall_mem_cons.mpr ⟨lw_p30, List.forall_mem_cons.mpr ⟨lw_p31, fun _ h => absurd h List.not_mem_nil⟩⟩⟩⟩⟩⟩⟩⟩⟩⟩⟩⟩⟩⟩⟩⟩
theorem lw_p32 : lw_okq (⟨"LockStaircaseModel", "comes", "(I)Z"⟩, 29) := ⟨⟨by decide +kernel, by decide +kernel⟩, List.mem_of_getElem? (i := 760) (by decide +kernel), List.mem_of_getElem? (i := 932) (by decide +kernel), List.mem_of_getElem? (i := 933) (by decide +kernel)⟩
theorem lw_p33 : lw_okq (⟨"LockStaircaseModel", "where", "(I)I"⟩, 29) := ⟨⟨by decide +kernel, by decide +kernel⟩, List.mem_of_getElem? (i := 760) (by decide +kernel), List.mem_of_getElem? (i := 936) (by decide +kernel), List.mem_of_getElem? (i := 937) (by decide +kernel)⟩
theorem lw_p34 : lw_okq (⟨"LockStaircaseModel", "isThere", "(II)Z"⟩, 29) := ⟨⟨by decide +kernel, by decide +kernel⟩, List.mem_of_getElem? (i := 760) (by decide +kernel), List.mem_of_getElem? (i := 940) (by decide +kernel), List.mem_of_getElem? (i := 941) (by decide +kernel)⟩
theorem lw_p35 : lw_okq (⟨"LockStaircaseModel", "shifts", "(II)V"⟩, 29) := ⟨⟨by decide +kernel, by decide +kernel⟩, List.mem_of_getElem? (i := 760) (by decide +kernel), List.mem_of_getElem? (i := 944) (by decide +kernel), List.mem_of_getElem? (i := 945) (by decide +kernel)⟩
theorem lw_p36 : lw_okq (⟨"LockStaircaseModel", "isBoat", "(I)Z"⟩, 29) := ⟨⟨by decide +kernel, by decide +kernel⟩, List.mem_of_getElem? (i := 760) (by decide +kernel), List.mem_of_getElem? (i := 952) (by decide +kernel), List.mem_of_getElem? (i := 953) (by decide +kernel)⟩
theorem lw_p37 : lw_okq (⟨"LockStaircaseModel", "lockOf", "(I)I"⟩, 29) := ⟨⟨by decide +kernel, by decide +kernel⟩, List.mem_of_getElem? (i := 760) (by decide +kernel), List.mem_of_getElem? (i := 976) (by decide +kernel), List.mem_of_getElem? (i := 977) (by decide +kernel)⟩
theorem lw_p38 : lw_okq (⟨"LockStaircaseModel", "isUp", "(I)Z"⟩, 29) := ⟨⟨by decide +kernel, by decide +kernel⟩, List.mem_of_getElem? (i := 760) (by decide +kernel), List.mem_of_getElem? (i := 980) (by decide +kernel), List.mem_of_getElem? (i := 981) (by decide +kernel)⟩
theorem lw_p39 : lw_okq (⟨"LockStaircaseModel", "boatGoes", "(IZ)Z"⟩, 29) := ⟨⟨by decide +kernel, by decide +kernel⟩, List.mem_of_getElem? (i := 760) (by decide +kernel), List.mem_of_getElem? (i := 985) (by decide +kernel), List.mem_of_getElem? (i := 986) (by decide +kernel)⟩
theorem lw_p40 : lw_okq (⟨"LockStaircaseModel", "goesTruly", "(IZI)Z"⟩, 29) := ⟨⟨by decide +kernel, by decide +kernel⟩, List.mem_of_getElem? (i := 760) (by decide +kernel), List.mem_of_getElem? (i := 989) (by decide +kernel), List.mem_of_getElem? (i := 990) (by decide +kernel)⟩
theorem lw_p41 : lw_okq (⟨"LockStaircaseModel", "goes", "(IZI)Z"⟩, 29) := ⟨⟨by decide +kernel, by decide +kernel⟩, List.mem_of_getElem? (i := 760) (by decide +kernel), List.mem_of_getElem? (i := 993) (by decide +kernel), List.mem_of_getElem? (i := 994) (by decide +kernel)⟩
theorem lw_p42 : lw_okq (⟨"LockStaircaseModel", "empties", "(I)Z"⟩, 29) := ⟨⟨by decide +kernel, by decide +kernel⟩, List.mem_of_getElem? (i := 760) (by decide +kernel), List.mem_of_getElem? (i := 997) (by decide +kernel), List.mem_of_getElem? (i := 998) (by decide +kernel)⟩
theorem lw_p43 : lw_okq (⟨"LockStaircaseModel", "flows", "(IIII)Z"⟩, 29) := ⟨⟨by decide +kernel, by decide +kernel⟩, List.mem_of_getElem? (i := 760) (by decide +kernel), List.mem_of_getElem? (i := 1001) (by decide +kernel), List.mem_of_getElem? (i := 1002) (by decide +kernel)⟩
theorem lw_p44 : lw_okq (⟨"LockStaircaseModel", "fills", "(I)Z"⟩, 29) := ⟨⟨by decide +kernel, by decide +kernel⟩, List.mem_of_getElem? (i := 760) (by decide +kernel), List.mem_of_getElem? (i := 1005) (by decide +kernel), List.mem_of_getElem? (i := 1006) (by decide +kernel)⟩
theorem lw_p45 : lw_okq (⟨"LockStaircaseModel", "queuesOf", "(I)V"⟩, 29) := ⟨⟨by decide +kernel, by decide +kernel⟩, List.mem_of_getElem? (i := 760) (by decide +kernel), List.mem_of_getElem? (i := 1026) (by decide +kernel), List.mem_of_getElem? (i := 1027) (by decide +kernel)⟩
theorem lw_p46 : lw_okq (⟨"LockStaircaseModel", "queues", "(II[I)I"⟩, 29) := ⟨⟨by decide +kernel, by decide +kernel⟩, List.mem_of_getElem? (i := 760) (by decide +kernel), List.mem_of_getElem? (i := 1030) (by decide +kernel), List.mem_of_getElem? (i := 1031) (by decide +kernel)⟩
theorem lw_p47 : lw_okq (⟨"LockStaircaseModel", "weavesAll", "(I)V"⟩, 29) := ⟨⟨by decide +kernel, by decide +kernel⟩, List.mem_of_getElem? (i := 760) (by decide +kernel), List.mem_of_getElem? (i := 1038) (by decide +kernel), List.mem_of_getElem? (i := 1039) (by decide +kernel)⟩
def lw_privs_3 : List (MethodName × Nat) := [(⟨"LockStaircaseModel", "comes", "(I)Z"⟩, 29), (⟨"LockStaircaseModel", "where", "(I)I"⟩, 29), (⟨"LockStaircaseModel", "isThere", "(II)Z"⟩, 29), (⟨"LockStaircaseModel", "shifts", "(II)V"⟩, 29), (⟨"LockStaircaseModel", "isBoat", "(I)Z"⟩, 29), (⟨"LockStaircaseModel", "lockOf", "(I)I"⟩, 29), (⟨"LockStaircaseModel", "isUp", "(I)Z"⟩, 29), (⟨"LockStaircaseModel", "boatGoes", "(IZ)Z"⟩, 29), (⟨"LockStaircaseModel", "goesTruly", "(IZI)Z"⟩, 29), (⟨"LockStaircaseModel", "goes", "(IZI)Z"⟩, 29), (⟨"LockStaircaseModel", "empties", "(I)Z"⟩, 29), (⟨"LockStaircaseModel", "flows", "(IIII)Z"⟩, 29), (⟨"LockStaircaseModel", "fills", "(I)Z"⟩, 29), (⟨"LockStaircaseModel", "queuesOf", "(I)V"⟩, 29), (⟨"LockStaircaseModel", "queues", "(II[I)I"⟩, 29), (⟨"LockStaircaseModel", "weavesAll", "(I)V"⟩, 29)]
theorem lw_r3 : ∀ q ∈ lw_privs_3, lw_okq q := List.forall_mem_cons.mpr ⟨lw_p32, List.forall_mem_cons.mpr ⟨lw_p33, List.forall_mem_cons.mpr ⟨lw_p34, List.forall_mem_cons.mpr ⟨lw_p35, List.forall_mem_cons.mpr ⟨lw_p36, List.forall_mem_cons.mpr ⟨lw_p37, List.forall_mem_cons.mpr ⟨lw_p38, List.forall_mem_cons.mpr ⟨lw_p39, List.forall_mem_cons.mpr ⟨lw_p40, List.forall_mem_cons.mpr ⟨lw_p41, List.forall_mem_cons.mpr ⟨lw_p42, List.forall_mem_cons.mpr ⟨lw_p43, List.forall_mem_cons.mpr ⟨lw_p44, List.forall_mem_cons.mpr ⟨lw_p45, List.forall_mem_cons.mpr ⟨lw_p46, List.forall_mem_cons.mpr ⟨lw_p47, fun _ h => absurd h List.not_mem_nil⟩⟩⟩⟩⟩⟩⟩⟩⟩⟩⟩⟩⟩⟩⟩⟩
theorem lw_p48 : lw_okq (⟨"LockStaircaseModel", "weaves", "(IIII)V"⟩, 29) := ⟨⟨by decide +kernel, by decide +kernel⟩, List.mem_of_getElem? (i := 760) (by decide +kernel), List.mem_of_getElem? (i := 1043) (by decide +kernel), List.mem_of_getElem? (i := 1044) (by decide +kernel)⟩
theorem lw_p49 : lw_okq (⟨"LockStaircaseModel", "runs", "(IIZ)V"⟩, 29) := ⟨⟨by decide +kernel, by decide +kernel⟩, List.mem_of_getElem? (i := 760) (by decide +kernel), List.mem_of_getElem? (i := 1056) (by decide +kernel), List.mem_of_getElem? (i := 1057) (by decide +kernel)⟩
theorem lw_p50 : lw_okq (⟨"LockStaircaseModel", "isFromBelow", "(IIII)Z"⟩, 29) := ⟨⟨by decide +kernel, by decide +kernel⟩, List.mem_of_getElem? (i := 760) (by decide +kernel), List.mem_of_getElem? (i := 1060) (by decide +kernel), List.mem_of_getElem? (i := 1061) (by decide +kernel)⟩
theorem lw_p51 : lw_okq (⟨"LockStaircaseModel", "dayGoes", "(IIZ)V"⟩, 29) := ⟨⟨by decide +kernel, by decide +kernel⟩, List.mem_of_getElem? (i := 760) (by decide +kernel), List.mem_of_getElem? (i := 1079) (by decide +kernel), List.mem_of_getElem? (i := 1080) (by decide +kernel)⟩
theorem lw_p52 : lw_okq (⟨"LockStaircaseModel", "crosses", "(ZZ)Z"⟩, 29) := ⟨⟨by decide +kernel, by decide +kernel⟩, List.mem_of_getElem? (i := 760) (by decide +kernel), List.mem_of_getElem? (i := 1084) (by decide +kernel), List.mem_of_getElem? (i := 1085) (by decide +kernel)⟩
theorem lw_p53 : lw_okq (⟨"LockStaircaseModel", "summit", "(III)I"⟩, 29) := ⟨⟨by decide +kernel, by decide +kernel⟩, List.mem_of_getElem? (i := 760) (by decide +kernel), List.mem_of_getElem? (i := 1096) (by decide +kernel), List.mem_of_getElem? (i := 1097) (by decide +kernel)⟩
def lw_privs_4 : List (MethodName × Nat) := [(⟨"LockStaircaseModel", "weaves", "(IIII)V"⟩, 29), (⟨"LockStaircaseModel", "runs", "(IIZ)V"⟩, 29), (⟨"LockStaircaseModel", "isFromBelow", "(IIII)Z"⟩, 29), (⟨"LockStaircaseModel", "dayGoes", "(IIZ)V"⟩, 29), (⟨"LockStaircaseModel", "crosses", "(ZZ)Z"⟩, 29), (⟨"LockStaircaseModel", "summit", "(III)I"⟩, 29)]
theorem lw_r4 : ∀ q ∈ lw_privs_4, lw_okq q := List.forall_mem_cons.mpr ⟨lw_p48, List.forall_mem_cons.mpr ⟨lw_p49, List.forall_mem_cons.mpr ⟨lw_p50, List.forall_mem_cons.mpr ⟨lw_p51, List.forall_mem_cons.mpr ⟨lw_p52, List.forall_mem_cons.mpr ⟨lw_p53, fun _ h => absurd h List.not_mem_nil⟩⟩⟩⟩⟩⟩
def lw_privs : List (MethodName × Nat) := lw_privs_1 ++ (lw_privs_2 ++ (lw_privs_3 ++ (lw_privs_4)))
def lw_tbl : List Cond := k2_sels lw_privs ++ tables_1
theorem lw_privs_ok : ∀ q ∈ lw_privs, lw_okq q := by
  show ∀ q ∈ lw_privs_1 ++ (lw_privs_2 ++ (lw_privs_3 ++ (lw_privs_4))), lw_okq q
  exact List.forall_mem_append.mpr ⟨lw_r1, List.forall_mem_append.mpr ⟨lw_r2, List.forall_mem_append.mpr ⟨lw_r3, lw_r4⟩⟩⟩
end
section

/-! ===== BEGIN printed: names, fields, word lists, decode rows ===== -/
def RX0 : String := "LockStaircase$Canal"
def TX0 : u_T := fun k => match k with
  | 0 => ("LockStaircase$Canal", "locks", "I", false)
  | 1 => ("LockStaircase$Canal", "inflow", "I", false)
  | 2 => ("LockStaircase$Canal", "lockful", "[I", true)
  | 3 => ("LockStaircase$Canal", "ponds", "[I", true)
  | 4 => ("LockStaircase$Canal", "held", "[I", true)
  | 5 => ("LockStaircase$Canal", "full", "[Z", true)
  | 6 => ("LockStaircase$Canal", "level", "[I", true)
  | 7 => ("LockStaircase$Canal", "least", "[I", true)
  | 8 => ("LockStaircase$Canal", "most", "[I", true)
  | 9 => ("LockStaircase$Canal", "loss", "[I", true)
  | 10 => ("LockStaircase$Canal", "tally", "LLockStaircase$Tally;", true)
  | 11 => ("LockStaircase$Canal", "cause", "LLockStaircase$Cause;", true)
  | _ => ("LockStaircase$Canal", "barred", "Z", false)
def tyX0 : Nat → FieldType := fun k => match k with
  | 0 => .int
  | 1 => .int
  | 2 => .array .int
  | 3 => .array .int
  | 4 => .array .int
  | 5 => .array .boolean
  | 6 => .array .int
  | 7 => .array .int
  | 8 => .array .int
  | 9 => .array .int
  | 10 => .object "LockStaircase$Tally"
  | 11 => .object "LockStaircase$Cause"
  | _ => .boolean
abbrev wsX00 : List Cond := u_ws RX0 TX0 13
theorem nmX0 : ∀ a, a < 13 → ∀ b, b < 13 → a ≠ b → (TX0 a).2.1 ≠ (TX0 b).2.1 := by decide +kernel
theorem tyX0_ok : ∀ k, k < 13 → parseFieldDescriptor (TX0 k).2.2.1 = some (tyX0 k) := by decide +kernel
abbrev cX0_init : ByteArray := prog_2_method_1_code
def yX0_init : MethodName := ⟨RX0, "<init>", "()V"⟩
abbrev cX0_reset : ByteArray := prog_2_method_2_code
def yX0_reset : MethodName := ⟨RX0, "reset", "(I)V"⟩
abbrev cX0_copyFrom : ByteArray := prog_2_method_3_code
def yX0_copyFrom : MethodName := ⟨RX0, "copyFrom", "(LLockStaircase$Canal;)V"⟩
abbrev cX0_copyLockFrom : ByteArray := prog_2_method_4_code
def yX0_copyLockFrom : MethodName := ⟨RX0, "copyLockFrom", "(LLockStaircase$Canal;I)V"⟩
abbrev cX0_hasLock : ByteArray := prog_2_method_5_code
def yX0_hasLock : MethodName := ⟨RX0, "hasLock", "(I)Z"⟩
abbrev cX0_hasReach : ByteArray := prog_2_method_6_code
def yX0_hasReach : MethodName := ⟨RX0, "hasReach", "(I)Z"⟩
abbrev cX0_isAtRest : ByteArray := prog_2_method_7_code
def yX0_isAtRest : MethodName := ⟨RX0, "isAtRest", "(I)Z"⟩
abbrev cX0_share : ByteArray := prog_2_method_8_code
def yX0_share : MethodName := ⟨RX0, "share", "(I)I"⟩
abbrev cX0_lockNumber : ByteArray := prog_2_method_9_code
def yX0_lockNumber : MethodName := ⟨RX0, "lockNumber", "(II)I"⟩
abbrev cX0_reachNumber : ByteArray := prog_2_method_10_code
def yX0_reachNumber : MethodName := ⟨RX0, "reachNumber", "(II)I"⟩
abbrev cX0_setReach : ByteArray := prog_2_method_11_code
def yX0_setReach : MethodName := ⟨RX0, "setReach", "(III)V"⟩
abbrev cX0_lockFrom : ByteArray := prog_2_method_12_code
def yX0_lockFrom : MethodName := ⟨RX0, "lockFrom", "(IZ)I"⟩
abbrev cX0_passage : ByteArray := prog_2_method_13_code
def yX0_passage : MethodName := ⟨RX0, "passage", "(IZI)I"⟩
abbrev cX0_fills : ByteArray := prog_2_method_14_code
def yX0_fills : MethodName := ⟨RX0, "fills", "(I)Z"⟩
abbrev cX0_empties : ByteArray := prog_2_method_15_code
def yX0_empties : MethodName := ⟨RX0, "empties", "(I)Z"⟩
abbrev cX0_swaps : ByteArray := prog_2_method_16_code
def yX0_swaps : MethodName := ⟨RX0, "swaps", "(II)Z"⟩
abbrev cX0_isBarred : ByteArray := prog_2_method_17_code
def yX0_isBarred : MethodName := ⟨RX0, "isBarred", "(IIII)Z"⟩
abbrev cX0_travel : ByteArray := prog_2_method_18_code
def yX0_travel : MethodName := ⟨RX0, "travel", "(IZI)I"⟩
abbrev cX0_wholeDay : ByteArray := prog_2_method_19_code
def yX0_wholeDay : MethodName := ⟨RX0, "wholeDay", "(II)I"⟩
abbrev cX0_loseAndGain : ByteArray := prog_2_method_20_code
def yX0_loseAndGain : MethodName := ⟨RX0, "loseAndGain", "()V"⟩
abbrev cX0_summitWater : ByteArray := prog_2_method_21_code
def yX0_summitWater : MethodName := ⟨RX0, "summitWater", "()I"⟩
abbrev cX0_allWater : ByteArray := prog_2_method_22_code
def yX0_allWater : MethodName := ⟨RX0, "allWater", "()I"⟩
abbrev cX0_leastLevelOver : ByteArray := prog_2_method_23_code
def yX0_leastLevelOver : MethodName := ⟨RX0, "leastLevelOver", "(I)I"⟩
abbrev cX0_fullLocks : ByteArray := prog_2_method_24_code
def yX0_fullLocks : MethodName := ⟨RX0, "fullLocks", "()I"⟩
def RX1 : String := "LockStaircase$Cause"
def TX1 : u_T := fun k => match k with
  | 0 => ("LockStaircase$Cause", "known", "Z", false)
  | 1 => ("LockStaircase$Cause", "lock", "I", false)
  | 2 => ("LockStaircase$Cause", "step", "I", false)
  | 3 => ("LockStaircase$Cause", "reach", "I", false)
  | _ => ("LockStaircase$Cause", "side", "I", false)
def tyX1 : Nat → FieldType := fun k => match k with
  | 0 => .boolean
  | 1 => .int
  | 2 => .int
  | 3 => .int
  | _ => .int
abbrev wsX10 : List Cond := u_ws RX1 TX1 5
theorem nmX1 : ∀ a, a < 5 → ∀ b, b < 5 → a ≠ b → (TX1 a).2.1 ≠ (TX1 b).2.1 := by decide +kernel
theorem tyX1_ok : ∀ k, k < 5 → parseFieldDescriptor (TX1 k).2.2.1 = some (tyX1 k) := by decide +kernel
abbrev cX1_init : ByteArray := prog_3_method_1_code
def yX1_init : MethodName := ⟨RX1, "<init>", "()V"⟩
abbrev cX1_number : ByteArray := prog_3_method_2_code
def yX1_number : MethodName := ⟨RX1, "number", "(I)I"⟩
def RX2 : String := "LockStaircase$Fleet"
def TX2 : u_T := fun k => match k with
  | 0 => ("LockStaircase$Fleet", "name", "[I", true)
  | 1 => ("LockStaircase$Fleet", "size", "[I", true)
  | 2 => ("LockStaircase$Fleet", "rank", "[I", true)
  | 3 => ("LockStaircase$Fleet", "up", "[Z", true)
  | 4 => ("LockStaircase$Fleet", "reach", "[I", true)
  | _ => ("LockStaircase$Fleet", "count", "I", false)
def tyX2 : Nat → FieldType := fun k => match k with
  | 0 => .array .int
  | 1 => .array .int
  | 2 => .array .int
  | 3 => .array .boolean
  | 4 => .array .int
  | _ => .int
abbrev wsX20 : List Cond := u_ws RX2 TX2 6
theorem nmX2 : ∀ a, a < 6 → ∀ b, b < 6 → a ≠ b → (TX2 a).2.1 ≠ (TX2 b).2.1 := by decide +kernel
theorem tyX2_ok : ∀ k, k < 6 → parseFieldDescriptor (TX2 k).2.2.1 = some (tyX2 k) := by decide +kernel
abbrev cX2_init : ByteArray := prog_4_method_1_code
def yX2_init : MethodName := ⟨RX2, "<init>", "()V"⟩
abbrev cX2_copyFrom : ByteArray := prog_4_method_2_code
def yX2_copyFrom : MethodName := ⟨RX2, "copyFrom", "(LLockStaircase$Fleet;)V"⟩
abbrev cX2_has : ByteArray := prog_4_method_3_code
def yX2_has : MethodName := ⟨RX2, "has", "(I)Z"⟩
abbrev cX2_numberOf : ByteArray := prog_4_method_4_code
def yX2_numberOf : MethodName := ⟨RX2, "numberOf", "(I)I"⟩
abbrev cX2_put : ByteArray := prog_4_method_5_code
def yX2_put : MethodName := ⟨RX2, "put", "(LLockStaircase$Tape;)V"⟩
abbrev cX2_placeFor : ByteArray := prog_4_method_6_code
def yX2_placeFor : MethodName := ⟨RX2, "placeFor", "(I)I"⟩
abbrev cX2_remove : ByteArray := prog_4_method_7_code
def yX2_remove : MethodName := ⟨RX2, "remove", "(I)V"⟩
abbrev cX2_copyRow : ByteArray := prog_4_method_8_code
def yX2_copyRow : MethodName := ⟨RX2, "copyRow", "(II)V"⟩
abbrev cX2_moveOn : ByteArray := prog_4_method_9_code
def yX2_moveOn : MethodName := ⟨RX2, "moveOn", "(II)V"⟩
abbrev cX2_sizeOf : ByteArray := prog_4_method_10_code
def yX2_sizeOf : MethodName := ⟨RX2, "sizeOf", "(I)I"⟩
abbrev cX2_rankOf : ByteArray := prog_4_method_11_code
def yX2_rankOf : MethodName := ⟨RX2, "rankOf", "(I)I"⟩
abbrev cX2_countIn : ByteArray := prog_4_method_12_code
def yX2_countIn : MethodName := ⟨RX2, "countIn", "(I)I"⟩
abbrev cX2_number : ByteArray := prog_4_method_13_code
def yX2_number : MethodName := ⟨RX2, "number", "(II)I"⟩
abbrev cX2_letterCount : ByteArray := prog_4_method_14_code
def yX2_letterCount : MethodName := ⟨RX2, "letterCount", "(I)I"⟩
abbrev cX2_letter : ByteArray := prog_4_method_15_code
def yX2_letter : MethodName := ⟨RX2, "letter", "(II)I"⟩
def RX3 : String := "LockStaircase$Line"
def TX3 : u_T := fun k => match k with
  | 0 => ("LockStaircase$Line", "boats", "[I", true)
  | _ => ("LockStaircase$Line", "count", "I", false)
def tyX3 : Nat → FieldType := fun k => match k with
  | 0 => .array .int
  | _ => .int
abbrev wsX30 : List Cond := u_ws RX3 TX3 2
theorem nmX3 : ∀ a, a < 2 → ∀ b, b < 2 → a ≠ b → (TX3 a).2.1 ≠ (TX3 b).2.1 := by decide +kernel
theorem tyX3_ok : ∀ k, k < 2 → parseFieldDescriptor (TX3 k).2.2.1 = some (tyX3 k) := by decide +kernel
abbrev cX3_init : ByteArray := prog_5_method_1_code
def yX3_init : MethodName := ⟨RX3, "<init>", "()V"⟩
abbrev cX3_boatAt : ByteArray := prog_5_method_2_code
def yX3_boatAt : MethodName := ⟨RX3, "boatAt", "(I)I"⟩
abbrev cX3_gather : ByteArray := prog_5_method_3_code
def yX3_gather : MethodName := ⟨RX3, "gather", "(LLockStaircase$Fleet;IZ)V"⟩
abbrev cX3_join : ByteArray := prog_5_method_4_code
def yX3_join : MethodName := ⟨RX3, "join", "(LLockStaircase$Fleet;I)V"⟩
def RX4 : String := "LockStaircase$RuleRun"
def TX4 : u_T := fun k => match k with
  | 0 => ("LockStaircase$RuleRun", "fromBelow", "I", false)
  | 1 => ("LockStaircase$RuleRun", "fromAbove", "I", false)
  | _ => ("LockStaircase$RuleRun", "spent", "I", false)
def tyX4 : Nat → FieldType := fun k => match k with
  | 0 => .int
  | 1 => .int
  | _ => .int
abbrev wsX40 : List Cond := u_ws RX4 TX4 3
theorem nmX4 : ∀ a, a < 3 → ∀ b, b < 3 → a ≠ b → (TX4 a).2.1 ≠ (TX4 b).2.1 := by decide +kernel
theorem tyX4_ok : ∀ k, k < 3 → parseFieldDescriptor (TX4 k).2.2.1 = some (tyX4 k) := by decide +kernel
abbrev cX4_init : ByteArray := prog_6_method_1_code
def yX4_init : MethodName := ⟨RX4, "<init>", "()V"⟩
abbrev cX4_done : ByteArray := prog_6_method_2_code
def yX4_done : MethodName := ⟨RX4, "done", "()I"⟩
abbrev cX4_go : ByteArray := prog_6_method_3_code
def yX4_go : MethodName := ⟨RX4, "go", "(LLockStaircase$Canal;LLockStaircase$Fleet;LLockStaircase$Line;LLockStaircase$Line;II)V"⟩
abbrev cX4_isFromBelowNext : ByteArray := prog_6_method_4_code
def yX4_isFromBelowNext : MethodName := ⟨RX4, "isFromBelowNext", "(LLockStaircase$Fleet;LLockStaircase$Line;LLockStaircase$Line;ZI)Z"⟩
abbrev cX4_isAhead : ByteArray := prog_6_method_5_code
def yX4_isAhead : MethodName := ⟨RX4, "isAhead", "(LLockStaircase$Fleet;II)Z"⟩
def RX5 : String := "LockStaircase$Tally"
def TX5 : u_T := fun k => match k with
  | _ => ("LockStaircase$Tally", "often", "[I", true)
def tyX5 : Nat → FieldType := fun k => match k with
  | _ => .array .int
abbrev wsX50 : List Cond := u_ws RX5 TX5 1
theorem nmX5 : ∀ a, a < 1 → ∀ b, b < 1 → a ≠ b → (TX5 a).2.1 ≠ (TX5 b).2.1 := by decide +kernel
theorem tyX5_ok : ∀ k, k < 1 → parseFieldDescriptor (TX5 k).2.2.1 = some (tyX5 k) := by decide +kernel
abbrev cX5_init : ByteArray := prog_7_method_1_code
def yX5_init : MethodName := ⟨RX5, "<init>", "()V"⟩
abbrev cX5_copyFrom : ByteArray := prog_7_method_2_code
def yX5_copyFrom : MethodName := ⟨RX5, "copyFrom", "(LLockStaircase$Tally;)V"⟩
abbrev cX5_add : ByteArray := prog_7_method_3_code
def yX5_add : MethodName := ⟨RX5, "add", "(I)V"⟩
abbrev cX5_unlike : ByteArray := prog_7_method_4_code
def yX5_unlike : MethodName := ⟨RX5, "unlike", "()I"⟩
abbrev cX5_upTo : ByteArray := prog_7_method_5_code
def yX5_upTo : MethodName := ⟨RX5, "upTo", "(I)I"⟩
abbrev cX5_row : ByteArray := prog_7_method_6_code
def yX5_row : MethodName := ⟨RX5, "row", "(IZ)I"⟩
def RX6 : String := "LockStaircase$Tape"
def TX6 : u_T := fun k => match k with
  | 0 => ("LockStaircase$Tape", "bytes", "[I", true)
  | 1 => ("LockStaircase$Tape", "length", "I", false)
  | 2 => ("LockStaircase$Tape", "at", "I", false)
  | 3 => ("LockStaircase$Tape", "name", "I", false)
  | 4 => ("LockStaircase$Tape", "up", "Z", false)
  | 5 => ("LockStaircase$Tape", "size", "I", false)
  | 6 => ("LockStaircase$Tape", "rank", "I", false)
  | _ => ("LockStaircase$Tape", "reach", "I", false)
def tyX6 : Nat → FieldType := fun k => match k with
  | 0 => .array .int
  | 1 => .int
  | 2 => .int
  | 3 => .int
  | 4 => .boolean
  | 5 => .int
  | 6 => .int
  | _ => .int
abbrev wsX60 : List Cond := u_ws RX6 TX6 8
theorem nmX6 : ∀ a, a < 8 → ∀ b, b < 8 → a ≠ b → (TX6 a).2.1 ≠ (TX6 b).2.1 := by decide +kernel
theorem tyX6_ok : ∀ k, k < 8 → parseFieldDescriptor (TX6 k).2.2.1 = some (tyX6 k) := by decide +kernel
abbrev cX6_init : ByteArray := prog_8_method_1_code
def yX6_init : MethodName := ⟨RX6, "<init>", "()V"⟩
abbrev cX6_append : ByteArray := prog_8_method_2_code
def yX6_append : MethodName := ⟨RX6, "append", "(I)Z"⟩
abbrev cX6_current : ByteArray := prog_8_method_3_code
def yX6_current : MethodName := ⟨RX6, "current", "()I"⟩
abbrev cX6_isAtEnd : ByteArray := prog_8_method_4_code
def yX6_isAtEnd : MethodName := ⟨RX6, "isAtEnd", "()Z"⟩
abbrev cX6_readBoat : ByteArray := prog_8_method_5_code
def yX6_readBoat : MethodName := ⟨RX6, "readBoat", "(I)Z"⟩
abbrev cX6_readName : ByteArray := prog_8_method_6_code
def yX6_readName : MethodName := ⟨RX6, "readName", "()I"⟩
abbrev cX6_readWay : ByteArray := prog_8_method_7_code
def yX6_readWay : MethodName := ⟨RX6, "readWay", "()Z"⟩
abbrev cX6_readFigure : ByteArray := prog_8_method_8_code
def yX6_readFigure : MethodName := ⟨RX6, "readFigure", "(I)I"⟩
abbrev cX6_readComma : ByteArray := prog_8_method_9_code
def yX6_readComma : MethodName := ⟨RX6, "readComma", "()Z"⟩
def RX7 : String := "LockStaircase$Weaving"
def TX7 : u_T := fun k => match k with
  | 0 => ("LockStaircase$Weaving", "boats", "I", false)
  | 1 => ("LockStaircase$Weaving", "fromAbove", "I", false)
  | 2 => ("LockStaircase$Weaving", "good", "I", false)
  | 3 => ("LockStaircase$Weaving", "leastSpent", "I", false)
  | _ => ("LockStaircase$Weaving", "bestMask", "I", false)
def tyX7 : Nat → FieldType := fun k => match k with
  | 0 => .int
  | 1 => .int
  | 2 => .int
  | 3 => .int
  | _ => .int
abbrev wsX70 : List Cond := u_ws RX7 TX7 5
theorem nmX7 : ∀ a, a < 5 → ∀ b, b < 5 → a ≠ b → (TX7 a).2.1 ≠ (TX7 b).2.1 := by decide +kernel
theorem tyX7_ok : ∀ k, k < 5 → parseFieldDescriptor (TX7 k).2.2.1 = some (tyX7 k) := by decide +kernel
abbrev cX7_init : ByteArray := prog_9_method_1_code
def yX7_init : MethodName := ⟨RX7, "<init>", "()V"⟩
abbrev cX7_begin : ByteArray := prog_9_method_2_code
def yX7_begin : MethodName := ⟨RX7, "begin", "(LLockStaircase$Line;LLockStaircase$Line;)V"⟩
abbrev cX7_isOrder : ByteArray := prog_9_method_3_code
def yX7_isOrder : MethodName := ⟨RX7, "isOrder", "(I)Z"⟩
abbrev cX7_isFromBelow : ByteArray := prog_9_method_4_code
def yX7_isFromBelow : MethodName := ⟨RX7, "isFromBelow", "(II)Z"⟩
abbrev cX7_weigh : ByteArray := prog_9_method_5_code
def yX7_weigh : MethodName := ⟨RX7, "weigh", "(II)V"⟩
def RX8 : String := "LockStaircase"
def TX8 : u_T := fun k => match k with
  | 0 => ("LockStaircase", "canal", "LLockStaircase$Canal;", true)
  | 1 => ("LockStaircase", "fleet", "LLockStaircase$Fleet;", true)
  | 2 => ("LockStaircase", "tape", "LLockStaircase$Tape;", true)
  | 3 => ("LockStaircase", "accountNow", "J", false)
  | 4 => ("LockStaircase", "imageCanal", "LLockStaircase$Canal;", true)
  | 5 => ("LockStaircase", "imageFleet", "LLockStaircase$Fleet;", true)
  | 6 => ("LockStaircase", "imageAccount", "J", false)
  | 7 => ("LockStaircase", "imageTaken", "Z", false)
  | 8 => ("LockStaircase", "thought", "LLockStaircase$Canal;", true)
  | 9 => ("LockStaircase", "thoughtFleet", "LLockStaircase$Fleet;", true)
  | 10 => ("LockStaircase", "below", "LLockStaircase$Line;", true)
  | 11 => ("LockStaircase", "above", "LLockStaircase$Line;", true)
  | 12 => ("LockStaircase", "ruleRun", "LLockStaircase$RuleRun;", true)
  | _ => ("LockStaircase", "weaving", "LLockStaircase$Weaving;", true)
def tyX8 : Nat → FieldType := fun k => match k with
  | 0 => .object "LockStaircase$Canal"
  | 1 => .object "LockStaircase$Fleet"
  | 2 => .object "LockStaircase$Tape"
  | 3 => .long
  | 4 => .object "LockStaircase$Canal"
  | 5 => .object "LockStaircase$Fleet"
  | 6 => .long
  | 7 => .boolean
  | 8 => .object "LockStaircase$Canal"
  | 9 => .object "LockStaircase$Fleet"
  | 10 => .object "LockStaircase$Line"
  | 11 => .object "LockStaircase$Line"
  | 12 => .object "LockStaircase$RuleRun"
  | _ => .object "LockStaircase$Weaving"
abbrev wsX80 : List Cond := u_ws RX8 TX8 14
theorem nmX8 : ∀ a, a < 14 → ∀ b, b < 14 → a ≠ b → (TX8 a).2.1 ≠ (TX8 b).2.1 := by decide +kernel
theorem tyX8_ok : ∀ k, k < 14 → parseFieldDescriptor (TX8 k).2.2.1 = some (tyX8 k) := by decide +kernel
abbrev cX8_init : ByteArray := prog_1_method_1_code
def yX8_init : MethodName := ⟨RX8, "<init>", "()V"⟩
abbrev cX8_locks : ByteArray := prog_1_method_2_code
def yX8_locks : MethodName := ⟨RX8, "locks", "(I)I"⟩
abbrev cX8_lock : ByteArray := prog_1_method_3_code
def yX8_lock : MethodName := ⟨RX8, "lock", "(III)I"⟩
abbrev cX8_isLockSetting : ByteArray := prog_1_method_4_code
def yX8_isLockSetting : MethodName := ⟨RX8, "isLockSetting", "(II)Z"⟩
abbrev cX8_ofLock : ByteArray := prog_1_method_5_code
def yX8_ofLock : MethodName := ⟨RX8, "ofLock", "(II)I"⟩
abbrev cX8_reach : ByteArray := prog_1_method_6_code
def yX8_reach : MethodName := ⟨RX8, "reach", "(III)I"⟩
abbrev cX8_isReachSetting : ByteArray := prog_1_method_7_code
def yX8_isReachSetting : MethodName := ⟨RX8, "isReachSetting", "(II)Z"⟩
abbrev cX8_ofReach : ByteArray := prog_1_method_8_code
def yX8_ofReach : MethodName := ⟨RX8, "ofReach", "(II)I"⟩
abbrev cX8_feeds : ByteArray := prog_1_method_9_code
def yX8_feeds : MethodName := ⟨RX8, "feeds", "(I)I"⟩
abbrev cX8_feed : ByteArray := prog_1_method_10_code
def yX8_feed : MethodName := ⟨RX8, "feed", "(I)I"⟩
abbrev cX8_boats : ByteArray := prog_1_method_11_code
def yX8_boats : MethodName := ⟨RX8, "boats", "()I"⟩
abbrev cX8_readBoats : ByteArray := prog_1_method_12_code
def yX8_readBoats : MethodName := ⟨RX8, "readBoats", "()I"⟩
abbrev cX8_takeFleetInThought : ByteArray := prog_1_method_13_code
def yX8_takeFleetInThought : MethodName := ⟨RX8, "takeFleetInThought", "(I)I"⟩
abbrev cX8_boat : ByteArray := prog_1_method_14_code
def yX8_boat : MethodName := ⟨RX8, "boat", "(II)I"⟩
abbrev cX8_find : ByteArray := prog_1_method_15_code
def yX8_find : MethodName := ⟨RX8, "find", "()I"⟩
abbrev cX8_leaves : ByteArray := prog_1_method_16_code
def yX8_leaves : MethodName := ⟨RX8, "leaves", "(I)I"⟩
abbrev cX8_about : ByteArray := prog_1_method_17_code
def yX8_about : MethodName := ⟨RX8, "about", "(I)I"⟩
abbrev cX8_pass : ByteArray := prog_1_method_18_code
def yX8_pass : MethodName := ⟨RX8, "pass", "(I)I"⟩
abbrev cX8_through : ByteArray := prog_1_method_19_code
def yX8_through : MethodName := ⟨RX8, "through", "(I)I"⟩
abbrev cX8_costs : ByteArray := prog_1_method_20_code
def yX8_costs : MethodName := ⟨RX8, "costs", "(I)I"⟩
abbrev cX8_why : ByteArray := prog_1_method_21_code
def yX8_why : MethodName := ⟨RX8, "why", "(I)I"⟩
abbrev cX8_queue : ByteArray := prog_1_method_22_code
def yX8_queue : MethodName := ⟨RX8, "queue", "(II)I"⟩
abbrev cX8_lineUp : ByteArray := prog_1_method_23_code
def yX8_lineUp : MethodName := ⟨RX8, "lineUp", "(I)V"⟩
abbrev cX8_orders : ByteArray := prog_1_method_24_code
def yX8_orders : MethodName := ⟨RX8, "orders", "(I)I"⟩
abbrev cX8_weaveOrders : ByteArray := prog_1_method_25_code
def yX8_weaveOrders : MethodName := ⟨RX8, "weaveOrders", "(I)V"⟩
abbrev cX8_spentByOrder : ByteArray := prog_1_method_26_code
def yX8_spentByOrder : MethodName := ⟨RX8, "spentByOrder", "(II)I"⟩
abbrev cX8_best : ByteArray := prog_1_method_27_code
def yX8_best : MethodName := ⟨RX8, "best", "(II)I"⟩
abbrev cX8_boatOfBest : ByteArray := prog_1_method_28_code
def yX8_boatOfBest : MethodName := ⟨RX8, "boatOfBest", "(I)I"⟩
abbrev cX8_ruled : ByteArray := prog_1_method_29_code
def yX8_ruled : MethodName := ⟨RX8, "ruled", "(III)I"⟩
abbrev cX8_isRule : ByteArray := prog_1_method_30_code
def yX8_isRule : MethodName := ⟨RX8, "isRule", "(I)Z"⟩
abbrev cX8_runInThought : ByteArray := prog_1_method_31_code
def yX8_runInThought : MethodName := ⟨RX8, "runInThought", "(II)V"⟩
abbrev cX8_run : ByteArray := prog_1_method_32_code
def yX8_run : MethodName := ⟨RX8, "run", "(II)I"⟩
abbrev cX8_moveOnFirst : ByteArray := prog_1_method_33_code
def yX8_moveOnFirst : MethodName := ⟨RX8, "moveOnFirst", "(LLockStaircase$Line;I)V"⟩
abbrev cX8_keeper : ByteArray := prog_1_method_34_code
def yX8_keeper : MethodName := ⟨RX8, "keeper", "(I)I"⟩
abbrev cX8_day : ByteArray := prog_1_method_35_code
def yX8_day : MethodName := ⟨RX8, "day", "(II)I"⟩
abbrev cX8_isTraffic : ByteArray := prog_1_method_36_code
def yX8_isTraffic : MethodName := ⟨RX8, "isTraffic", "(I)Z"⟩
abbrev cX8_dry : ByteArray := prog_1_method_37_code
def yX8_dry : MethodName := ⟨RX8, "dry", "(III)I"⟩
abbrev cX8_pond : ByteArray := prog_1_method_38_code
def yX8_pond : MethodName := ⟨RX8, "pond", "(III)I"⟩
abbrev cX8_summitInThought : ByteArray := prog_1_method_39_code
def yX8_summitInThought : MethodName := ⟨RX8, "summitInThought", "(III)I"⟩
abbrev cX8_water : ByteArray := prog_1_method_40_code
def yX8_water : MethodName := ⟨RX8, "water", "()I"⟩
abbrev cX8_levels : ByteArray := prog_1_method_41_code
def yX8_levels : MethodName := ⟨RX8, "levels", "(I)I"⟩
abbrev cX8_tally : ByteArray := prog_1_method_42_code
def yX8_tally : MethodName := ⟨RX8, "tally", "(II)I"⟩
abbrev cX8_pays : ByteArray := prog_1_method_43_code
def yX8_pays : MethodName := ⟨RX8, "pays", "(JJ)I"⟩
abbrev cX8_account : ByteArray := prog_1_method_44_code
def yX8_account : MethodName := ⟨RX8, "account", "()J"⟩
abbrev cX8_image : ByteArray := prog_1_method_45_code
def yX8_image : MethodName := ⟨RX8, "image", "()I"⟩
abbrev cX8_undo : ByteArray := prog_1_method_46_code
def yX8_undo : MethodName := ⟨RX8, "undo", "()I"⟩
abbrev cX8_count : ByteArray := prog_1_method_47_code
def yX8_count : MethodName := ⟨RX8, "count", "(I)I"⟩
def RX9 : String := "LockStaircaseModel"
def TX9 : u_T := fun k => match k with
  | 0 => ("LockStaircaseModel", "now", "[I", true)
  | 1 => ("LockStaircaseModel", "old", "[I", true)
  | 2 => ("LockStaircaseModel", "ahead", "[I", true)
  | 3 => ("LockStaircaseModel", "imaged", "Z", false)
  | 4 => ("LockStaircaseModel", "account", "J", false)
  | 5 => ("LockStaircaseModel", "oldAccount", "J", false)
  | 6 => ("LockStaircaseModel", "spent", "I", false)
  | 7 => ("LockStaircaseModel", "step", "I", false)
  | 8 => ("LockStaircaseModel", "at", "I", false)
  | 9 => ("LockStaircaseModel", "side", "I", false)
  | 10 => ("LockStaircaseModel", "wasBarred", "Z", false)
  | 11 => ("LockStaircaseModel", "cause", "[I", true)
  | 12 => ("LockStaircaseModel", "taped", "I", false)
  | 13 => ("LockStaircaseModel", "tape", "[I", true)
  | 14 => ("LockStaircaseModel", "place", "I", false)
  | 15 => ("LockStaircaseModel", "fault", "I", false)
  | 16 => ("LockStaircaseModel", "read", "[I", true)
  | 17 => ("LockStaircaseModel", "told", "I", false)
  | 18 => ("LockStaircaseModel", "below", "I", false)
  | 19 => ("LockStaircaseModel", "above", "I", false)
  | 20 => ("LockStaircaseModel", "ones", "[I", true)
  | 21 => ("LockStaircaseModel", "others", "[I", true)
  | 22 => ("LockStaircaseModel", "done", "I", false)
  | 23 => ("LockStaircaseModel", "sum", "I", false)
  | 24 => ("LockStaircaseModel", "ended", "I", false)
  | 25 => ("LockStaircaseModel", "good", "I", false)
  | 26 => ("LockStaircaseModel", "best", "I", false)
  | 27 => ("LockStaircaseModel", "row", "[I", true)
  | _ => ("LockStaircaseModel", "bestRow", "[I", true)
def tyX9 : Nat → FieldType := fun k => match k with
  | 0 => .array .int
  | 1 => .array .int
  | 2 => .array .int
  | 3 => .boolean
  | 4 => .long
  | 5 => .long
  | 6 => .int
  | 7 => .int
  | 8 => .int
  | 9 => .int
  | 10 => .boolean
  | 11 => .array .int
  | 12 => .int
  | 13 => .array .int
  | 14 => .int
  | 15 => .int
  | 16 => .array .int
  | 17 => .int
  | 18 => .int
  | 19 => .int
  | 20 => .array .int
  | 21 => .array .int
  | 22 => .int
  | 23 => .int
  | 24 => .int
  | 25 => .int
  | 26 => .int
  | 27 => .array .int
  | _ => .array .int
abbrev wsX90 : List Cond := u_ws RX9 TX9 29
theorem nmX9 : ∀ a, a < 29 → ∀ b, b < 29 → a ≠ b → (TX9 a).2.1 ≠ (TX9 b).2.1 := by decide +kernel
theorem tyX9_ok : ∀ k, k < 29 → parseFieldDescriptor (TX9 k).2.2.1 = some (tyX9 k) := by decide +kernel
abbrev cX9_init : ByteArray := prog_11_method_1_code
def yX9_init : MethodName := ⟨RX9, "<init>", "()V"⟩
abbrev cX9_within : ByteArray := prog_11_method_2_code
def yX9_within : MethodName := ⟨RX9, "within", "(III)Z"⟩
abbrev cX9_begins : ByteArray := prog_11_method_3_code
def yX9_begins : MethodName := ⟨RX9, "begins", "(I)V"⟩
abbrev cX9_becomes : ByteArray := prog_11_method_4_code
def yX9_becomes : MethodName := ⟨RX9, "becomes", "(II)I"⟩
abbrev cX9_isLock : ByteArray := prog_11_method_5_code
def yX9_isLock : MethodName := ⟨RX9, "isLock", "(I)Z"⟩
abbrev cX9_isReach : ByteArray := prog_11_method_6_code
def yX9_isReach : MethodName := ⟨RX9, "isReach", "(I)Z"⟩
abbrev cX9_isBoat : ByteArray := prog_11_method_7_code
def yX9_isBoat : MethodName := ⟨RX9, "isBoat", "(I)Z"⟩
abbrev cX9_pours : ByteArray := prog_11_method_8_code
def yX9_pours : MethodName := ⟨RX9, "pours", "([I[I)V"⟩
abbrev cX9_locks : ByteArray := prog_11_method_9_code
def yX9_locks : MethodName := ⟨RX9, "locks", "(I)I"⟩
abbrev cX9_lock : ByteArray := prog_11_method_10_code
def yX9_lock : MethodName := ⟨RX9, "lock", "(III)I"⟩
abbrev cX9_share : ByteArray := prog_11_method_11_code
def yX9_share : MethodName := ⟨RX9, "share", "(I)I"⟩
abbrev cX9_ofLock : ByteArray := prog_11_method_12_code
def yX9_ofLock : MethodName := ⟨RX9, "ofLock", "(II)I"⟩
abbrev cX9_reach : ByteArray := prog_11_method_13_code
def yX9_reach : MethodName := ⟨RX9, "reach", "(III)I"⟩
abbrev cX9_ofReach : ByteArray := prog_11_method_14_code
def yX9_ofReach : MethodName := ⟨RX9, "ofReach", "(II)I"⟩
abbrev cX9_feeds : ByteArray := prog_11_method_15_code
def yX9_feeds : MethodName := ⟨RX9, "feeds", "(I)I"⟩
abbrev cX9_feed : ByteArray := prog_11_method_16_code
def yX9_feed : MethodName := ⟨RX9, "feed", "(I)I"⟩
abbrev cX9_isFrom : ByteArray := prog_11_method_17_code
def yX9_isFrom : MethodName := ⟨RX9, "isFrom", "(II)Z"⟩
abbrev cX9_wrong : ByteArray := prog_11_method_18_code
def yX9_wrong : MethodName := ⟨RX9, "wrong", "()V"⟩
abbrev cX9_name : ByteArray := prog_11_method_19_code
def yX9_name : MethodName := ⟨RX9, "name", "()I"⟩
abbrev cX9_figure : ByteArray := prog_11_method_20_code
def yX9_figure : MethodName := ⟨RX9, "figure", "(I)I"⟩
abbrev cX9_readsBoat : ByteArray := prog_11_method_21_code
def yX9_readsBoat : MethodName := ⟨RX9, "readsBoat", "()V"⟩
abbrev cX9_where : ByteArray := prog_11_method_22_code
def yX9_where : MethodName := ⟨RX9, "where", "(I)I"⟩
abbrev cX9_isThere : ByteArray := prog_11_method_23_code
def yX9_isThere : MethodName := ⟨RX9, "isThere", "(II)Z"⟩
abbrev cX9_shifts : ByteArray := prog_11_method_24_code
def yX9_shifts : MethodName := ⟨RX9, "shifts", "(II)V"⟩
abbrev cX9_comes : ByteArray := prog_11_method_25_code
def yX9_comes : MethodName := ⟨RX9, "comes", "(I)Z"⟩
abbrev cX9_boats : ByteArray := prog_11_method_26_code
def yX9_boats : MethodName := ⟨RX9, "boats", "()I"⟩
abbrev cX9_letter : ByteArray := prog_11_method_27_code
def yX9_letter : MethodName := ⟨RX9, "letter", "(II)I"⟩
abbrev cX9_boat : ByteArray := prog_11_method_28_code
def yX9_boat : MethodName := ⟨RX9, "boat", "(II)I"⟩
abbrev cX9_find : ByteArray := prog_11_method_29_code
def yX9_find : MethodName := ⟨RX9, "find", "()I"⟩
abbrev cX9_leaves : ByteArray := prog_11_method_30_code
def yX9_leaves : MethodName := ⟨RX9, "leaves", "(I)I"⟩
abbrev cX9_about : ByteArray := prog_11_method_31_code
def yX9_about : MethodName := ⟨RX9, "about", "(I)I"⟩
abbrev cX9_flows : ByteArray := prog_11_method_32_code
def yX9_flows : MethodName := ⟨RX9, "flows", "(IIII)Z"⟩
abbrev cX9_fills : ByteArray := prog_11_method_33_code
def yX9_fills : MethodName := ⟨RX9, "fills", "(I)Z"⟩
abbrev cX9_empties : ByteArray := prog_11_method_34_code
def yX9_empties : MethodName := ⟨RX9, "empties", "(I)Z"⟩
abbrev cX9_goes : ByteArray := prog_11_method_35_code
def yX9_goes : MethodName := ⟨RX9, "goes", "(IZI)Z"⟩
abbrev cX9_goesTruly : ByteArray := prog_11_method_36_code
def yX9_goesTruly : MethodName := ⟨RX9, "goesTruly", "(IZI)Z"⟩
abbrev cX9_isUp : ByteArray := prog_11_method_37_code
def yX9_isUp : MethodName := ⟨RX9, "isUp", "(I)Z"⟩
abbrev cX9_lockOf : ByteArray := prog_11_method_38_code
def yX9_lockOf : MethodName := ⟨RX9, "lockOf", "(I)I"⟩
abbrev cX9_boatGoes : ByteArray := prog_11_method_39_code
def yX9_boatGoes : MethodName := ⟨RX9, "boatGoes", "(IZ)Z"⟩
abbrev cX9_pass : ByteArray := prog_11_method_40_code
def yX9_pass : MethodName := ⟨RX9, "pass", "(I)I"⟩
abbrev cX9_through : ByteArray := prog_11_method_41_code
def yX9_through : MethodName := ⟨RX9, "through", "(I)I"⟩
abbrev cX9_costs : ByteArray := prog_11_method_42_code
def yX9_costs : MethodName := ⟨RX9, "costs", "(I)I"⟩
abbrev cX9_why : ByteArray := prog_11_method_43_code
def yX9_why : MethodName := ⟨RX9, "why", "(I)I"⟩
abbrev cX9_queues : ByteArray := prog_11_method_44_code
def yX9_queues : MethodName := ⟨RX9, "queues", "(II[I)I"⟩
abbrev cX9_queuesOf : ByteArray := prog_11_method_45_code
def yX9_queuesOf : MethodName := ⟨RX9, "queuesOf", "(I)V"⟩
abbrev cX9_queue : ByteArray := prog_11_method_46_code
def yX9_queue : MethodName := ⟨RX9, "queue", "(II)I"⟩
abbrev cX9_weaves : ByteArray := prog_11_method_47_code
def yX9_weaves : MethodName := ⟨RX9, "weaves", "(IIII)V"⟩
abbrev cX9_weavesAll : ByteArray := prog_11_method_48_code
def yX9_weavesAll : MethodName := ⟨RX9, "weavesAll", "(I)V"⟩
abbrev cX9_orders : ByteArray := prog_11_method_49_code
def yX9_orders : MethodName := ⟨RX9, "orders", "(I)I"⟩
abbrev cX9_best : ByteArray := prog_11_method_50_code
def yX9_best : MethodName := ⟨RX9, "best", "(II)I"⟩
abbrev cX9_isFromBelow : ByteArray := prog_11_method_51_code
def yX9_isFromBelow : MethodName := ⟨RX9, "isFromBelow", "(IIII)Z"⟩
abbrev cX9_runs : ByteArray := prog_11_method_52_code
def yX9_runs : MethodName := ⟨RX9, "runs", "(IIZ)V"⟩
abbrev cX9_ruled : ByteArray := prog_11_method_53_code
def yX9_ruled : MethodName := ⟨RX9, "ruled", "(III)I"⟩
abbrev cX9_run : ByteArray := prog_11_method_54_code
def yX9_run : MethodName := ⟨RX9, "run", "(II)I"⟩
abbrev cX9_keeper : ByteArray := prog_11_method_55_code
def yX9_keeper : MethodName := ⟨RX9, "keeper", "(I)I"⟩
abbrev cX9_crosses : ByteArray := prog_11_method_56_code
def yX9_crosses : MethodName := ⟨RX9, "crosses", "(ZZ)Z"⟩
abbrev cX9_dayGoes : ByteArray := prog_11_method_57_code
def yX9_dayGoes : MethodName := ⟨RX9, "dayGoes", "(IIZ)V"⟩
abbrev cX9_isTraffic : ByteArray := prog_11_method_58_code
def yX9_isTraffic : MethodName := ⟨RX9, "isTraffic", "(II)Z"⟩
abbrev cX9_day : ByteArray := prog_11_method_59_code
def yX9_day : MethodName := ⟨RX9, "day", "(II)I"⟩
abbrev cX9_dry : ByteArray := prog_11_method_60_code
def yX9_dry : MethodName := ⟨RX9, "dry", "(III)I"⟩
abbrev cX9_summit : ByteArray := prog_11_method_61_code
def yX9_summit : MethodName := ⟨RX9, "summit", "(III)I"⟩
abbrev cX9_pond : ByteArray := prog_11_method_62_code
def yX9_pond : MethodName := ⟨RX9, "pond", "(III)I"⟩
abbrev cX9_water : ByteArray := prog_11_method_63_code
def yX9_water : MethodName := ⟨RX9, "water", "()I"⟩
abbrev cX9_levels : ByteArray := prog_11_method_64_code
def yX9_levels : MethodName := ⟨RX9, "levels", "(I)I"⟩
abbrev cX9_tally : ByteArray := prog_11_method_65_code
def yX9_tally : MethodName := ⟨RX9, "tally", "(II)I"⟩
abbrev cX9_isBeyond : ByteArray := prog_11_method_66_code
def yX9_isBeyond : MethodName := ⟨RX9, "isBeyond", "(JJ)Z"⟩
abbrev cX9_pays : ByteArray := prog_11_method_67_code
def yX9_pays : MethodName := ⟨RX9, "pays", "(JJ)I"⟩
abbrev cX9_account : ByteArray := prog_11_method_68_code
def yX9_account : MethodName := ⟨RX9, "account", "()J"⟩
abbrev cX9_image : ByteArray := prog_11_method_69_code
def yX9_image : MethodName := ⟨RX9, "image", "()I"⟩
abbrev cX9_undo : ByteArray := prog_11_method_70_code
def yX9_undo : MethodName := ⟨RX9, "undo", "()I"⟩
abbrev cX9_count : ByteArray := prog_11_method_71_code
def yX9_count : MethodName := ⟨RX9, "count", "(I)I"⟩
def RJ6 : String := "java/lang/Integer"
def TJ6 : u_T := fun k => match k with
  | _ => ("", "", "", false)
def tyJ6 : Nat → FieldType := fun k => match k with
  | _ => .int
abbrev wsJ60 : List Cond := u_ws RJ6 TJ6 0
theorem nmJ6 : ∀ a, a < 0 → ∀ b, b < 0 → a ≠ b → (TJ6 a).2.1 ≠ (TJ6 b).2.1 := by decide +kernel
theorem tyJ6_ok : ∀ k, k < 0 → parseFieldDescriptor (TJ6 k).2.2.1 = some (tyJ6 k) := by decide +kernel
abbrev cJ6_bitCount_0f7a4 : ByteArray := prog_12_method_49_code
def yJ6_bitCount_0f7a4 : MethodName := ⟨RJ6, "bitCount", "(I)I"⟩
def RJ9 : String := "java/lang/Math"
def TJ9 : u_T := fun k => match k with
  | _ => ("", "", "", false)
def tyJ9 : Nat → FieldType := fun k => match k with
  | _ => .int
abbrev wsJ90 : List Cond := u_ws RJ9 TJ9 0
theorem nmJ9 : ∀ a, a < 0 → ∀ b, b < 0 → a ≠ b → (TJ9 a).2.1 ≠ (TJ9 b).2.1 := by decide +kernel
theorem tyJ9_ok : ∀ k, k < 0 → parseFieldDescriptor (TJ9 k).2.2.1 = some (tyJ9 k) := by decide +kernel
abbrev cJ9_max_7cf53 : ByteArray := prog_13_method_65_code
def yJ9_max_7cf53 : MethodName := ⟨RJ9, "max", "(II)I"⟩
abbrev cJ9_min_7cf53 : ByteArray := prog_13_method_69_code
def yJ9_min_7cf53 : MethodName := ⟨RJ9, "min", "(II)I"⟩
def RJ10 : String := "java/lang/System"
def TJ10 : u_T := fun k => match k with
  | _ => ("", "", "", false)
def tyJ10 : Nat → FieldType := fun k => match k with
  | _ => .int
abbrev wsJ100 : List Cond := u_ws RJ10 TJ10 0
theorem nmJ10 : ∀ a, a < 0 → ∀ b, b < 0 → a ≠ b → (TJ10 a).2.1 ≠ (TJ10 b).2.1 := by decide +kernel
theorem tyJ10_ok : ∀ k, k < 0 → parseFieldDescriptor (TJ10 k).2.2.1 = some (tyJ10 k) := by decide +kernel
def RL : String := "LockStaircaseLaw"
abbrev cL_law : ByteArray := code
def yL_law : MethodName := ⟨RL, "law", "([I)Z"⟩
abbrev vwCl : List vw_C := [(RX0, TX0, 13), (RX1, TX1, 5), (RX2, TX2, 6), (RX3, TX3, 2), (RX4, TX4, 3), (RX5, TX5, 1), (RX6, TX6, 8), (RX7, TX7, 5), (RX8, TX8, 14), (RX9, TX9, 29)]
end
section
/-! the tables' words that a method may use, by their places (printed by wip/whole/gen_words.py) -/
def lk_AW : List Cond := lw_tbl.filter goodWord
theorem lk_in {w : Cond} (h : w ∈ tables_1) (hg : goodWord w = true) : w ∈ lk_AW := List.mem_filter.mpr ⟨List.mem_append_right _ h, hg⟩
theorem lk_in1 {w : Cond} (h : w ∈ tables_1_1) (hg : goodWord w = true) : w ∈ lk_AW := lk_in (List.mem_append_left _ h) hg
theorem lk_in2 {w : Cond} (h : w ∈ tables_1_2) (hg : goodWord w = true) : w ∈ lk_AW := lk_in (List.mem_append_right _ (List.mem_append_left _ h)) hg
theorem lk_in3 {w : Cond} (h : w ∈ tables_1_3) (hg : goodWord w = true) : w ∈ lk_AW := lk_in (List.mem_append_right _ (List.mem_append_right _ (List.mem_append_left _ h))) hg
theorem lk_in4 {w : Cond} (h : w ∈ tables_1_4) (hg : goodWord w = true) : w ∈ lk_AW := lk_in (List.mem_append_right _ (List.mem_append_right _ (List.mem_append_right _ (List.mem_append_left _ h)))) hg
theorem lk_in5 {w : Cond} (h : w ∈ tables_1_5) (hg : goodWord w = true) : w ∈ lk_AW := lk_in (List.mem_append_right _ (List.mem_append_right _ (List.mem_append_right _ (List.mem_append_right _ h)))) hg
theorem lk_inS {w : Cond} (h : w ∈ k2_sels lw_privs) (hg : goodWord w = true) : w ∈ lk_AW := List.mem_filter.mpr ⟨List.mem_append_left _ h, hg⟩
abbrev lk_M : Type := MethodName × ByteArray × Nat × Option FieldType
/-- what a callee's tables say of it, whoever calls it; n: how many parameters -/
def lk_cv (M : lk_M) (n : Nat) : Prop := Cond.instanceMethod M.1 ∈ lk_AW ∧ Cond.selects M.1.cls M.1 M.1 ∈ lk_AW ∧ Cond.initialized M.1.cls ∈ lk_AW ∧ Cond.code M.1 M.2.1 M.2.2.1 M.2.2.2 ∈ lk_AW ∧ (M.1.cls ≠ "java/lang/invoke/MethodHandle" ∧ M.1.cls ≠ "java/lang/invoke/VarHandle" ∧ (parseMethodDescriptor M.1.desc).map (fun d => d.parameters.length) = some n) ∧ M.2.2.1 ≤ 21
def lk_cs (M : lk_M) (n : Nat) : Prop := Cond.static M.1 ∈ lk_AW ∧ Cond.initialized M.1.cls ∈ lk_AW ∧ Cond.code M.1 M.2.1 M.2.2.1 M.2.2.2 ∈ lk_AW ∧ (M.1.cls ≠ "java/lang/invoke/MethodHandle" ∧ M.1.cls ≠ "java/lang/invoke/VarHandle" ∧ (parseMethodDescriptor M.1.desc).map (fun d => d.parameters.length) = some n) ∧ M.2.2.1 ≤ 21
theorem iwX0 : ∀ w ∈ wsX00, w ∈ lk_AW := by decide +kernel
theorem iwX1 : ∀ w ∈ wsX10, w ∈ lk_AW := by decide +kernel
theorem iwX2 : ∀ w ∈ wsX20, w ∈ lk_AW := by decide +kernel
theorem iwX3 : ∀ w ∈ wsX30, w ∈ lk_AW := by decide +kernel
theorem iwX4 : ∀ w ∈ wsX40, w ∈ lk_AW := by decide +kernel
theorem iwX5 : ∀ w ∈ wsX50, w ∈ lk_AW := by decide +kernel
theorem iwX6 : ∀ w ∈ wsX60, w ∈ lk_AW := by decide +kernel
theorem iwX7 : ∀ w ∈ wsX70, w ∈ lk_AW := by decide +kernel
theorem iwX8 : ∀ w ∈ wsX80, w ∈ lk_AW := by decide +kernel
theorem iwX9 : ∀ w ∈ wsX90, w ∈ lk_AW := by decide +kernel
abbrev mX0_reset : lk_M := (yX0_reset, cX0_reset, 3, none)
theorem vX0_reset : lk_cv mX0_reset 1 := ⟨lk_in2 (List.mem_of_getElem? (i := 12) rfl) rfl, lk_in2 (List.mem_of_getElem? (i := 13) rfl) rfl, lk_in1 (List.mem_of_getElem? (i := 2) rfl) rfl, lk_in2 (List.mem_of_getElem? (i := 14) rfl) rfl, ⟨by decide +kernel, by decide +kernel, by decide +kernel⟩, by decide⟩
abbrev mX5_copyFrom : lk_M := (yX5_copyFrom, cX5_copyFrom, 2, none)
theorem vX5_copyFrom : lk_cv mX5_copyFrom 1 := ⟨lk_in3 (List.mem_of_getElem? (i := 50) rfl) rfl, lk_in3 (List.mem_of_getElem? (i := 51) rfl) rfl, lk_in1 (List.mem_of_getElem? (i := 3) rfl) rfl, lk_in3 (List.mem_of_getElem? (i := 52) rfl) rfl, ⟨by decide +kernel, by decide +kernel, by decide +kernel⟩, by decide⟩
abbrev mX0_copyFrom : lk_M := (yX0_copyFrom, cX0_copyFrom, 3, none)
theorem vX0_copyFrom : lk_cv mX0_copyFrom 1 := ⟨lk_in3 (List.mem_of_getElem? (i := 45) rfl) rfl, lk_in3 (List.mem_of_getElem? (i := 46) rfl) rfl, lk_in1 (List.mem_of_getElem? (i := 2) rfl) rfl, lk_in3 (List.mem_of_getElem? (i := 47) rfl) rfl, ⟨by decide +kernel, by decide +kernel, by decide +kernel⟩, by decide⟩
abbrev mX0_hasLock : lk_M := (yX0_hasLock, cX0_hasLock, 2, (some .boolean))
theorem vX0_hasLock : lk_cv mX0_hasLock 1 := ⟨lk_in2 (List.mem_of_getElem? (i := 67) rfl) rfl, lk_in2 (List.mem_of_getElem? (i := 68) rfl) rfl, lk_in1 (List.mem_of_getElem? (i := 2) rfl) rfl, lk_in2 (List.mem_of_getElem? (i := 69) rfl) rfl, ⟨by decide +kernel, by decide +kernel, by decide +kernel⟩, by decide⟩
abbrev mX0_copyLockFrom : lk_M := (yX0_copyLockFrom, cX0_copyLockFrom, 3, none)
theorem vX0_copyLockFrom : lk_cv mX0_copyLockFrom 2 := ⟨lk_in3 (List.mem_of_getElem? (i := 116) rfl) rfl, lk_in3 (List.mem_of_getElem? (i := 117) rfl) rfl, lk_in1 (List.mem_of_getElem? (i := 2) rfl) rfl, lk_in3 (List.mem_of_getElem? (i := 118) rfl) rfl, ⟨by decide +kernel, by decide +kernel, by decide +kernel⟩, by decide⟩
abbrev mX0_hasReach : lk_M := (yX0_hasReach, cX0_hasReach, 2, (some .boolean))
theorem vX0_hasReach : lk_cv mX0_hasReach 1 := ⟨lk_in2 (List.mem_of_getElem? (i := 94) rfl) rfl, lk_in2 (List.mem_of_getElem? (i := 95) rfl) rfl, lk_in1 (List.mem_of_getElem? (i := 2) rfl) rfl, lk_in2 (List.mem_of_getElem? (i := 96) rfl) rfl, ⟨by decide +kernel, by decide +kernel, by decide +kernel⟩, by decide⟩
abbrev mX0_isAtRest : lk_M := (yX0_isAtRest, cX0_isAtRest, 2, (some .boolean))
theorem vX0_isAtRest : lk_cv mX0_isAtRest 1 := ⟨lk_in2 (List.mem_of_getElem? (i := 74) rfl) rfl, lk_in2 (List.mem_of_getElem? (i := 75) rfl) rfl, lk_in1 (List.mem_of_getElem? (i := 2) rfl) rfl, lk_in2 (List.mem_of_getElem? (i := 76) rfl) rfl, ⟨by decide +kernel, by decide +kernel, by decide +kernel⟩, by decide⟩
abbrev mX0_share : lk_M := (yX0_share, cX0_share, 2, (some .int))
theorem vX0_share : lk_cv mX0_share 1 := ⟨lk_in2 (List.mem_of_getElem? (i := 82) rfl) rfl, lk_in2 (List.mem_of_getElem? (i := 83) rfl) rfl, lk_in1 (List.mem_of_getElem? (i := 2) rfl) rfl, lk_in2 (List.mem_of_getElem? (i := 84) rfl) rfl, ⟨by decide +kernel, by decide +kernel, by decide +kernel⟩, by decide⟩
abbrev mX0_lockNumber : lk_M := (yX0_lockNumber, cX0_lockNumber, 3, (some .int))
theorem vX0_lockNumber : lk_cv mX0_lockNumber 2 := ⟨lk_in2 (List.mem_of_getElem? (i := 78) rfl) rfl, lk_in2 (List.mem_of_getElem? (i := 79) rfl) rfl, lk_in1 (List.mem_of_getElem? (i := 2) rfl) rfl, lk_in2 (List.mem_of_getElem? (i := 80) rfl) rfl, ⟨by decide +kernel, by decide +kernel, by decide +kernel⟩, by decide⟩
abbrev mX0_reachNumber : lk_M := (yX0_reachNumber, cX0_reachNumber, 3, (some .int))
theorem vX0_reachNumber : lk_cv mX0_reachNumber 2 := ⟨lk_in2 (List.mem_of_getElem? (i := 101) rfl) rfl, lk_in2 (List.mem_of_getElem? (i := 102) rfl) rfl, lk_in1 (List.mem_of_getElem? (i := 2) rfl) rfl, lk_in2 (List.mem_of_getElem? (i := 103) rfl) rfl, ⟨by decide +kernel, by decide +kernel, by decide +kernel⟩, by decide⟩
abbrev mX0_setReach : lk_M := (yX0_setReach, cX0_setReach, 4, none)
theorem vX0_setReach : lk_cv mX0_setReach 3 := ⟨lk_in2 (List.mem_of_getElem? (i := 105) rfl) rfl, lk_in2 (List.mem_of_getElem? (i := 106) rfl) rfl, lk_in1 (List.mem_of_getElem? (i := 2) rfl) rfl, lk_in2 (List.mem_of_getElem? (i := 107) rfl) rfl, ⟨by decide +kernel, by decide +kernel, by decide +kernel⟩, by decide⟩
abbrev mX0_lockFrom : lk_M := (yX0_lockFrom, cX0_lockFrom, 2, (some .int))
theorem vX0_lockFrom : lk_cs mX0_lockFrom 2 := ⟨lk_in2 (List.mem_of_getElem? (i := 236) rfl) rfl, lk_in1 (List.mem_of_getElem? (i := 2) rfl) rfl, lk_in2 (List.mem_of_getElem? (i := 237) rfl) rfl, ⟨by decide +kernel, by decide +kernel, by decide +kernel⟩, by decide⟩
abbrev mX0_isBarred : lk_M := (yX0_isBarred, cX0_isBarred, 6, (some .boolean))
theorem vX0_isBarred : lk_cv mX0_isBarred 4 := ⟨lk_in3 (List.mem_of_getElem? (i := 11) rfl) rfl, lk_inS (List.mem_of_getElem? (i := 9) rfl) rfl, lk_in1 (List.mem_of_getElem? (i := 2) rfl) rfl, lk_in3 (List.mem_of_getElem? (i := 12) rfl) rfl, ⟨by decide +kernel, by decide +kernel, by decide +kernel⟩, by decide⟩
abbrev mX0_empties : lk_M := (yX0_empties, cX0_empties, 4, (some .boolean))
theorem vX0_empties : lk_cv mX0_empties 1 := ⟨lk_in3 (List.mem_of_getElem? (i := 7) rfl) rfl, lk_inS (List.mem_of_getElem? (i := 8) rfl) rfl, lk_in1 (List.mem_of_getElem? (i := 2) rfl) rfl, lk_in3 (List.mem_of_getElem? (i := 8) rfl) rfl, ⟨by decide +kernel, by decide +kernel, by decide +kernel⟩, by decide⟩
abbrev mX0_fills : lk_M := (yX0_fills, cX0_fills, 3, (some .boolean))
theorem vX0_fills : lk_cv mX0_fills 1 := ⟨lk_in3 (List.mem_of_getElem? (i := 15) rfl) rfl, lk_inS (List.mem_of_getElem? (i := 10) rfl) rfl, lk_in1 (List.mem_of_getElem? (i := 2) rfl) rfl, lk_in3 (List.mem_of_getElem? (i := 16) rfl) rfl, ⟨by decide +kernel, by decide +kernel, by decide +kernel⟩, by decide⟩
abbrev mX0_swaps : lk_M := (yX0_swaps, cX0_swaps, 3, (some .boolean))
theorem vX0_swaps : lk_cv mX0_swaps 2 := ⟨lk_in3 (List.mem_of_getElem? (i := 19) rfl) rfl, lk_inS (List.mem_of_getElem? (i := 11) rfl) rfl, lk_in1 (List.mem_of_getElem? (i := 2) rfl) rfl, lk_in3 (List.mem_of_getElem? (i := 20) rfl) rfl, ⟨by decide +kernel, by decide +kernel, by decide +kernel⟩, by decide⟩
abbrev mX5_add : lk_M := (yX5_add, cX5_add, 2, none)
theorem vX5_add : lk_cv mX5_add 1 := ⟨lk_in3 (List.mem_of_getElem? (i := 22) rfl) rfl, lk_in3 (List.mem_of_getElem? (i := 23) rfl) rfl, lk_in1 (List.mem_of_getElem? (i := 3) rfl) rfl, lk_in3 (List.mem_of_getElem? (i := 24) rfl) rfl, ⟨by decide +kernel, by decide +kernel, by decide +kernel⟩, by decide⟩
abbrev mX0_passage : lk_M := (yX0_passage, cX0_passage, 10, (some .int))
theorem vX0_passage : lk_cv mX0_passage 3 := ⟨lk_in3 (List.mem_of_getElem? (i := 0) rfl) rfl, lk_in3 (List.mem_of_getElem? (i := 1) rfl) rfl, lk_in1 (List.mem_of_getElem? (i := 2) rfl) rfl, lk_in3 (List.mem_of_getElem? (i := 2) rfl) rfl, ⟨by decide +kernel, by decide +kernel, by decide +kernel⟩, by decide⟩
abbrev mX0_travel : lk_M := (yX0_travel, cX0_travel, 6, (some .int))
theorem vX0_travel : lk_cv mX0_travel 3 := ⟨lk_in3 (List.mem_of_getElem? (i := 35) rfl) rfl, lk_in3 (List.mem_of_getElem? (i := 36) rfl) rfl, lk_in1 (List.mem_of_getElem? (i := 2) rfl) rfl, lk_in3 (List.mem_of_getElem? (i := 37) rfl) rfl, ⟨by decide +kernel, by decide +kernel, by decide +kernel⟩, by decide⟩
abbrev mX0_loseAndGain : lk_M := (yX0_loseAndGain, cX0_loseAndGain, 2, none)
theorem vX0_loseAndGain : lk_cv mX0_loseAndGain 0 := ⟨lk_in3 (List.mem_of_getElem? (i := 201) rfl) rfl, lk_inS (List.mem_of_getElem? (i := 20) rfl) rfl, lk_in1 (List.mem_of_getElem? (i := 2) rfl) rfl, lk_in3 (List.mem_of_getElem? (i := 202) rfl) rfl, ⟨by decide +kernel, by decide +kernel, by decide +kernel⟩, by decide⟩
abbrev mX0_wholeDay : lk_M := (yX0_wholeDay, cX0_wholeDay, 7, (some .int))
theorem vX0_wholeDay : lk_cv mX0_wholeDay 2 := ⟨lk_in3 (List.mem_of_getElem? (i := 196) rfl) rfl, lk_in3 (List.mem_of_getElem? (i := 197) rfl) rfl, lk_in1 (List.mem_of_getElem? (i := 2) rfl) rfl, lk_in3 (List.mem_of_getElem? (i := 198) rfl) rfl, ⟨by decide +kernel, by decide +kernel, by decide +kernel⟩, by decide⟩
abbrev mX0_summitWater : lk_M := (yX0_summitWater, cX0_summitWater, 1, (some .int))
theorem vX0_summitWater : lk_cv mX0_summitWater 0 := ⟨lk_in3 (List.mem_of_getElem? (i := 55) rfl) rfl, lk_in3 (List.mem_of_getElem? (i := 56) rfl) rfl, lk_in1 (List.mem_of_getElem? (i := 2) rfl) rfl, lk_in3 (List.mem_of_getElem? (i := 57) rfl) rfl, ⟨by decide +kernel, by decide +kernel, by decide +kernel⟩, by decide⟩
abbrev mX0_allWater : lk_M := (yX0_allWater, cX0_allWater, 3, (some .int))
theorem vX0_allWater : lk_cv mX0_allWater 0 := ⟨lk_in3 (List.mem_of_getElem? (i := 225) rfl) rfl, lk_in3 (List.mem_of_getElem? (i := 226) rfl) rfl, lk_in1 (List.mem_of_getElem? (i := 2) rfl) rfl, lk_in3 (List.mem_of_getElem? (i := 227) rfl) rfl, ⟨by decide +kernel, by decide +kernel, by decide +kernel⟩, by decide⟩
abbrev mX0_leastLevelOver : lk_M := (yX0_leastLevelOver, cX0_leastLevelOver, 4, (some .int))
theorem vX0_leastLevelOver : lk_cv mX0_leastLevelOver 1 := ⟨lk_in3 (List.mem_of_getElem? (i := 233) rfl) rfl, lk_in3 (List.mem_of_getElem? (i := 234) rfl) rfl, lk_in1 (List.mem_of_getElem? (i := 2) rfl) rfl, lk_in3 (List.mem_of_getElem? (i := 235) rfl) rfl, ⟨by decide +kernel, by decide +kernel, by decide +kernel⟩, by decide⟩
abbrev mX0_fullLocks : lk_M := (yX0_fullLocks, cX0_fullLocks, 3, (some .int))
theorem vX0_fullLocks : lk_cv mX0_fullLocks 0 := ⟨lk_in4 (List.mem_of_getElem? (i := 36) rfl) rfl, lk_in4 (List.mem_of_getElem? (i := 37) rfl) rfl, lk_in1 (List.mem_of_getElem? (i := 2) rfl) rfl, lk_in4 (List.mem_of_getElem? (i := 38) rfl) rfl, ⟨by decide +kernel, by decide +kernel, by decide +kernel⟩, by decide⟩
abbrev mX1_number : lk_M := (yX1_number, cX1_number, 2, (some .int))
theorem vX1_number : lk_cv mX1_number 1 := ⟨lk_in3 (List.mem_of_getElem? (i := 63) rfl) rfl, lk_in3 (List.mem_of_getElem? (i := 64) rfl) rfl, lk_in1 (List.mem_of_getElem? (i := 4) rfl) rfl, lk_in3 (List.mem_of_getElem? (i := 65) rfl) rfl, ⟨by decide +kernel, by decide +kernel, by decide +kernel⟩, by decide⟩
abbrev mX2_copyFrom : lk_M := (yX2_copyFrom, cX2_copyFrom, 3, none)
theorem vX2_copyFrom : lk_cv mX2_copyFrom 1 := ⟨lk_in2 (List.mem_of_getElem? (i := 137) rfl) rfl, lk_in2 (List.mem_of_getElem? (i := 138) rfl) rfl, lk_in1 (List.mem_of_getElem? (i := 5) rfl) rfl, lk_in2 (List.mem_of_getElem? (i := 139) rfl) rfl, ⟨by decide +kernel, by decide +kernel, by decide +kernel⟩, by decide⟩
abbrev mX2_has : lk_M := (yX2_has, cX2_has, 2, (some .boolean))
theorem vX2_has : lk_cv mX2_has 1 := ⟨lk_in2 (List.mem_of_getElem? (i := 192) rfl) rfl, lk_in2 (List.mem_of_getElem? (i := 193) rfl) rfl, lk_in1 (List.mem_of_getElem? (i := 5) rfl) rfl, lk_in2 (List.mem_of_getElem? (i := 194) rfl) rfl, ⟨by decide +kernel, by decide +kernel, by decide +kernel⟩, by decide⟩
abbrev mX2_numberOf : lk_M := (yX2_numberOf, cX2_numberOf, 3, (some .int))
theorem vX2_numberOf : lk_cv mX2_numberOf 1 := ⟨lk_in2 (List.mem_of_getElem? (i := 215) rfl) rfl, lk_in2 (List.mem_of_getElem? (i := 216) rfl) rfl, lk_in1 (List.mem_of_getElem? (i := 5) rfl) rfl, lk_in2 (List.mem_of_getElem? (i := 217) rfl) rfl, ⟨by decide +kernel, by decide +kernel, by decide +kernel⟩, by decide⟩
abbrev mX2_copyRow : lk_M := (yX2_copyRow, cX2_copyRow, 3, none)
theorem vX2_copyRow : lk_cv mX2_copyRow 2 := ⟨lk_in2 (List.mem_of_getElem? (i := 173) rfl) rfl, lk_inS (List.mem_of_getElem? (i := 5) rfl) rfl, lk_in1 (List.mem_of_getElem? (i := 5) rfl) rfl, lk_in2 (List.mem_of_getElem? (i := 174) rfl) rfl, ⟨by decide +kernel, by decide +kernel, by decide +kernel⟩, by decide⟩
abbrev mX2_placeFor : lk_M := (yX2_placeFor, cX2_placeFor, 4, (some .int))
theorem vX2_placeFor : lk_cv mX2_placeFor 1 := ⟨lk_in2 (List.mem_of_getElem? (i := 169) rfl) rfl, lk_inS (List.mem_of_getElem? (i := 4) rfl) rfl, lk_in1 (List.mem_of_getElem? (i := 5) rfl) rfl, lk_in2 (List.mem_of_getElem? (i := 170) rfl) rfl, ⟨by decide +kernel, by decide +kernel, by decide +kernel⟩, by decide⟩
abbrev mX2_put : lk_M := (yX2_put, cX2_put, 3, none)
theorem vX2_put : lk_cv mX2_put 1 := ⟨lk_in2 (List.mem_of_getElem? (i := 164) rfl) rfl, lk_in2 (List.mem_of_getElem? (i := 165) rfl) rfl, lk_in1 (List.mem_of_getElem? (i := 5) rfl) rfl, lk_in2 (List.mem_of_getElem? (i := 166) rfl) rfl, ⟨by decide +kernel, by decide +kernel, by decide +kernel⟩, by decide⟩
abbrev mX2_remove : lk_M := (yX2_remove, cX2_remove, 3, none)
theorem vX2_remove : lk_cv mX2_remove 1 := ⟨lk_in2 (List.mem_of_getElem? (i := 223) rfl) rfl, lk_in2 (List.mem_of_getElem? (i := 224) rfl) rfl, lk_in1 (List.mem_of_getElem? (i := 5) rfl) rfl, lk_in2 (List.mem_of_getElem? (i := 225) rfl) rfl, ⟨by decide +kernel, by decide +kernel, by decide +kernel⟩, by decide⟩
abbrev mX2_moveOn : lk_M := (yX2_moveOn, cX2_moveOn, 3, none)
theorem vX2_moveOn : lk_cv mX2_moveOn 2 := ⟨lk_in3 (List.mem_of_getElem? (i := 27) rfl) rfl, lk_in3 (List.mem_of_getElem? (i := 28) rfl) rfl, lk_in1 (List.mem_of_getElem? (i := 5) rfl) rfl, lk_in3 (List.mem_of_getElem? (i := 29) rfl) rfl, ⟨by decide +kernel, by decide +kernel, by decide +kernel⟩, by decide⟩
abbrev mX2_sizeOf : lk_M := (yX2_sizeOf, cX2_sizeOf, 2, (some .int))
theorem vX2_sizeOf : lk_cv mX2_sizeOf 1 := ⟨lk_in3 (List.mem_of_getElem? (i := 128) rfl) rfl, lk_in3 (List.mem_of_getElem? (i := 129) rfl) rfl, lk_in1 (List.mem_of_getElem? (i := 5) rfl) rfl, lk_in3 (List.mem_of_getElem? (i := 130) rfl) rfl, ⟨by decide +kernel, by decide +kernel, by decide +kernel⟩, by decide⟩
abbrev mX2_rankOf : lk_M := (yX2_rankOf, cX2_rankOf, 2, (some .int))
theorem vX2_rankOf : lk_cv mX2_rankOf 1 := ⟨lk_in3 (List.mem_of_getElem? (i := 83) rfl) rfl, lk_in3 (List.mem_of_getElem? (i := 84) rfl) rfl, lk_in1 (List.mem_of_getElem? (i := 5) rfl) rfl, lk_in3 (List.mem_of_getElem? (i := 85) rfl) rfl, ⟨by decide +kernel, by decide +kernel, by decide +kernel⟩, by decide⟩
abbrev mX2_countIn : lk_M := (yX2_countIn, cX2_countIn, 4, (some .int))
theorem vX2_countIn : lk_cv mX2_countIn 1 := ⟨lk_in2 (List.mem_of_getElem? (i := 113) rfl) rfl, lk_in2 (List.mem_of_getElem? (i := 114) rfl) rfl, lk_in1 (List.mem_of_getElem? (i := 5) rfl) rfl, lk_in2 (List.mem_of_getElem? (i := 115) rfl) rfl, ⟨by decide +kernel, by decide +kernel, by decide +kernel⟩, by decide⟩
abbrev mX2_letter : lk_M := (yX2_letter, cX2_letter, 5, (some .int))
theorem vX2_letter : lk_cv mX2_letter 2 := ⟨lk_in2 (List.mem_of_getElem? (i := 204) rfl) rfl, lk_in2 (List.mem_of_getElem? (i := 205) rfl) rfl, lk_in1 (List.mem_of_getElem? (i := 5) rfl) rfl, lk_in2 (List.mem_of_getElem? (i := 206) rfl) rfl, ⟨by decide +kernel, by decide +kernel, by decide +kernel⟩, by decide⟩
abbrev mX2_letterCount : lk_M := (yX2_letterCount, cX2_letterCount, 3, (some .int))
theorem vX2_letterCount : lk_cv mX2_letterCount 1 := ⟨lk_in2 (List.mem_of_getElem? (i := 201) rfl) rfl, lk_inS (List.mem_of_getElem? (i := 7) rfl) rfl, lk_in1 (List.mem_of_getElem? (i := 5) rfl) rfl, lk_in2 (List.mem_of_getElem? (i := 202) rfl) rfl, ⟨by decide +kernel, by decide +kernel, by decide +kernel⟩, by decide⟩
abbrev mX2_number : lk_M := (yX2_number, cX2_number, 3, (some .int))
theorem vX2_number : lk_cv mX2_number 2 := ⟨lk_in2 (List.mem_of_getElem? (i := 196) rfl) rfl, lk_in2 (List.mem_of_getElem? (i := 197) rfl) rfl, lk_in1 (List.mem_of_getElem? (i := 5) rfl) rfl, lk_in2 (List.mem_of_getElem? (i := 198) rfl) rfl, ⟨by decide +kernel, by decide +kernel, by decide +kernel⟩, by decide⟩
abbrev mX3_boatAt : lk_M := (yX3_boatAt, cX3_boatAt, 2, (some .int))
theorem vX3_boatAt : lk_cv mX3_boatAt 1 := ⟨lk_in3 (List.mem_of_getElem? (i := 87) rfl) rfl, lk_in3 (List.mem_of_getElem? (i := 88) rfl) rfl, lk_in1 (List.mem_of_getElem? (i := 7) rfl) rfl, lk_in3 (List.mem_of_getElem? (i := 89) rfl) rfl, ⟨by decide +kernel, by decide +kernel, by decide +kernel⟩, by decide⟩
abbrev mX3_join : lk_M := (yX3_join, cX3_join, 4, none)
theorem vX3_join : lk_cv mX3_join 2 := ⟨lk_in3 (List.mem_of_getElem? (i := 80) rfl) rfl, lk_inS (List.mem_of_getElem? (i := 13) rfl) rfl, lk_in1 (List.mem_of_getElem? (i := 7) rfl) rfl, lk_in3 (List.mem_of_getElem? (i := 81) rfl) rfl, ⟨by decide +kernel, by decide +kernel, by decide +kernel⟩, by decide⟩
abbrev mX3_gather : lk_M := (yX3_gather, cX3_gather, 5, none)
theorem vX3_gather : lk_cv mX3_gather 3 := ⟨lk_in3 (List.mem_of_getElem? (i := 75) rfl) rfl, lk_in3 (List.mem_of_getElem? (i := 76) rfl) rfl, lk_in1 (List.mem_of_getElem? (i := 7) rfl) rfl, lk_in3 (List.mem_of_getElem? (i := 77) rfl) rfl, ⟨by decide +kernel, by decide +kernel, by decide +kernel⟩, by decide⟩
abbrev mX4_done : lk_M := (yX4_done, cX4_done, 1, (some .int))
theorem vX4_done : lk_cv mX4_done 0 := ⟨lk_in3 (List.mem_of_getElem? (i := 173) rfl) rfl, lk_in3 (List.mem_of_getElem? (i := 174) rfl) rfl, lk_in1 (List.mem_of_getElem? (i := 8) rfl) rfl, lk_in3 (List.mem_of_getElem? (i := 175) rfl) rfl, ⟨by decide +kernel, by decide +kernel, by decide +kernel⟩, by decide⟩
abbrev mX4_isAhead : lk_M := (yX4_isAhead, cX4_isAhead, 5, (some .boolean))
theorem vX4_isAhead : lk_cs mX4_isAhead 3 := ⟨lk_in3 (List.mem_of_getElem? (i := 166) rfl) rfl, lk_in1 (List.mem_of_getElem? (i := 8) rfl) rfl, lk_in3 (List.mem_of_getElem? (i := 167) rfl) rfl, ⟨by decide +kernel, by decide +kernel, by decide +kernel⟩, by decide⟩
abbrev mX4_isFromBelowNext : lk_M := (yX4_isFromBelowNext, cX4_isFromBelowNext, 6, (some .boolean))
theorem vX4_isFromBelowNext : lk_cv mX4_isFromBelowNext 5 := ⟨lk_in3 (List.mem_of_getElem? (i := 162) rfl) rfl, lk_inS (List.mem_of_getElem? (i := 18) rfl) rfl, lk_in1 (List.mem_of_getElem? (i := 8) rfl) rfl, lk_in3 (List.mem_of_getElem? (i := 163) rfl) rfl, ⟨by decide +kernel, by decide +kernel, by decide +kernel⟩, by decide⟩
abbrev mX4_go : lk_M := (yX4_go, cX4_go, 12, none)
theorem vX4_go : lk_cv mX4_go 6 := ⟨lk_in3 (List.mem_of_getElem? (i := 156) rfl) rfl, lk_in3 (List.mem_of_getElem? (i := 157) rfl) rfl, lk_in1 (List.mem_of_getElem? (i := 8) rfl) rfl, lk_in3 (List.mem_of_getElem? (i := 158) rfl) rfl, ⟨by decide +kernel, by decide +kernel, by decide +kernel⟩, by decide⟩
abbrev mX5_unlike : lk_M := (yX5_unlike, cX5_unlike, 3, (some .int))
theorem vX5_unlike : lk_cv mX5_unlike 0 := ⟨lk_in4 (List.mem_of_getElem? (i := 5) rfl) rfl, lk_in4 (List.mem_of_getElem? (i := 6) rfl) rfl, lk_in1 (List.mem_of_getElem? (i := 3) rfl) rfl, lk_in4 (List.mem_of_getElem? (i := 7) rfl) rfl, ⟨by decide +kernel, by decide +kernel, by decide +kernel⟩, by decide⟩
abbrev mX5_upTo : lk_M := (yX5_upTo, cX5_upTo, 4, (some .int))
theorem vX5_upTo : lk_cv mX5_upTo 1 := ⟨lk_in4 (List.mem_of_getElem? (i := 1) rfl) rfl, lk_in4 (List.mem_of_getElem? (i := 2) rfl) rfl, lk_in1 (List.mem_of_getElem? (i := 3) rfl) rfl, lk_in4 (List.mem_of_getElem? (i := 3) rfl) rfl, ⟨by decide +kernel, by decide +kernel, by decide +kernel⟩, by decide⟩
abbrev mX5_row : lk_M := (yX5_row, cX5_row, 5, (some .int))
theorem vX5_row : lk_cv mX5_row 2 := ⟨lk_in4 (List.mem_of_getElem? (i := 9) rfl) rfl, lk_in4 (List.mem_of_getElem? (i := 10) rfl) rfl, lk_in1 (List.mem_of_getElem? (i := 3) rfl) rfl, lk_in4 (List.mem_of_getElem? (i := 11) rfl) rfl, ⟨by decide +kernel, by decide +kernel, by decide +kernel⟩, by decide⟩
abbrev mX6_append : lk_M := (yX6_append, cX6_append, 2, (some .boolean))
theorem vX6_append : lk_cv mX6_append 1 := ⟨lk_in2 (List.mem_of_getElem? (i := 125) rfl) rfl, lk_in2 (List.mem_of_getElem? (i := 126) rfl) rfl, lk_in1 (List.mem_of_getElem? (i := 6) rfl) rfl, lk_in2 (List.mem_of_getElem? (i := 127) rfl) rfl, ⟨by decide +kernel, by decide +kernel, by decide +kernel⟩, by decide⟩
abbrev mX6_current : lk_M := (yX6_current, cX6_current, 1, (some .int))
theorem vX6_current : lk_cv mX6_current 0 := ⟨lk_in2 (List.mem_of_getElem? (i := 153) rfl) rfl, lk_inS (List.mem_of_getElem? (i := 1) rfl) rfl, lk_in1 (List.mem_of_getElem? (i := 6) rfl) rfl, lk_in2 (List.mem_of_getElem? (i := 154) rfl) rfl, ⟨by decide +kernel, by decide +kernel, by decide +kernel⟩, by decide⟩
abbrev mX6_isAtEnd : lk_M := (yX6_isAtEnd, cX6_isAtEnd, 1, (some .boolean))
theorem vX6_isAtEnd : lk_cv mX6_isAtEnd 0 := ⟨lk_in2 (List.mem_of_getElem? (i := 176) rfl) rfl, lk_in2 (List.mem_of_getElem? (i := 177) rfl) rfl, lk_in1 (List.mem_of_getElem? (i := 6) rfl) rfl, lk_in2 (List.mem_of_getElem? (i := 178) rfl) rfl, ⟨by decide +kernel, by decide +kernel, by decide +kernel⟩, by decide⟩
abbrev mX6_readName : lk_M := (yX6_readName, cX6_readName, 5, (some .int))
theorem vX6_readName : lk_cv mX6_readName 0 := ⟨lk_in2 (List.mem_of_getElem? (i := 148) rfl) rfl, lk_in2 (List.mem_of_getElem? (i := 149) rfl) rfl, lk_in1 (List.mem_of_getElem? (i := 6) rfl) rfl, lk_in2 (List.mem_of_getElem? (i := 150) rfl) rfl, ⟨by decide +kernel, by decide +kernel, by decide +kernel⟩, by decide⟩
abbrev mX6_readWay : lk_M := (yX6_readWay, cX6_readWay, 2, (some .boolean))
theorem vX6_readWay : lk_cv mX6_readWay 0 := ⟨lk_in2 (List.mem_of_getElem? (i := 157) rfl) rfl, lk_inS (List.mem_of_getElem? (i := 2) rfl) rfl, lk_in1 (List.mem_of_getElem? (i := 6) rfl) rfl, lk_in2 (List.mem_of_getElem? (i := 158) rfl) rfl, ⟨by decide +kernel, by decide +kernel, by decide +kernel⟩, by decide⟩
abbrev mX6_readFigure : lk_M := (yX6_readFigure, cX6_readFigure, 3, (some .int))
theorem vX6_readFigure : lk_cv mX6_readFigure 1 := ⟨lk_in2 (List.mem_of_getElem? (i := 161) rfl) rfl, lk_inS (List.mem_of_getElem? (i := 3) rfl) rfl, lk_in1 (List.mem_of_getElem? (i := 6) rfl) rfl, lk_in2 (List.mem_of_getElem? (i := 162) rfl) rfl, ⟨by decide +kernel, by decide +kernel, by decide +kernel⟩, by decide⟩
abbrev mX6_readBoat : lk_M := (yX6_readBoat, cX6_readBoat, 2, (some .boolean))
theorem vX6_readBoat : lk_cv mX6_readBoat 1 := ⟨lk_in2 (List.mem_of_getElem? (i := 144) rfl) rfl, lk_in2 (List.mem_of_getElem? (i := 145) rfl) rfl, lk_in1 (List.mem_of_getElem? (i := 6) rfl) rfl, lk_in2 (List.mem_of_getElem? (i := 146) rfl) rfl, ⟨by decide +kernel, by decide +kernel, by decide +kernel⟩, by decide⟩
abbrev mX6_readComma : lk_M := (yX6_readComma, cX6_readComma, 1, (some .boolean))
theorem vX6_readComma : lk_cv mX6_readComma 0 := ⟨lk_in2 (List.mem_of_getElem? (i := 184) rfl) rfl, lk_in2 (List.mem_of_getElem? (i := 185) rfl) rfl, lk_in1 (List.mem_of_getElem? (i := 6) rfl) rfl, lk_in2 (List.mem_of_getElem? (i := 186) rfl) rfl, ⟨by decide +kernel, by decide +kernel, by decide +kernel⟩, by decide⟩
abbrev mX7_begin : lk_M := (yX7_begin, cX7_begin, 3, none)
theorem vX7_begin : lk_cv mX7_begin 2 := ⟨lk_in3 (List.mem_of_getElem? (i := 99) rfl) rfl, lk_in3 (List.mem_of_getElem? (i := 100) rfl) rfl, lk_in1 (List.mem_of_getElem? (i := 9) rfl) rfl, lk_in3 (List.mem_of_getElem? (i := 101) rfl) rfl, ⟨by decide +kernel, by decide +kernel, by decide +kernel⟩, by decide⟩
abbrev mJ6_bitCount_0f7a4 : lk_M := (yJ6_bitCount_0f7a4, cJ6_bitCount_0f7a4, 1, (some .int))
theorem vJ6_bitCount_0f7a4 : lk_cs mJ6_bitCount_0f7a4 1 := ⟨lk_in3 (List.mem_of_getElem? (i := 110) rfl) rfl, lk_in1 (List.mem_of_getElem? (i := 13) rfl) rfl, lk_in3 (List.mem_of_getElem? (i := 111) rfl) rfl, ⟨by decide +kernel, by decide +kernel, by decide +kernel⟩, by decide⟩
abbrev mX7_isOrder : lk_M := (yX7_isOrder, cX7_isOrder, 2, (some .boolean))
theorem vX7_isOrder : lk_cv mX7_isOrder 1 := ⟨lk_in3 (List.mem_of_getElem? (i := 106) rfl) rfl, lk_in3 (List.mem_of_getElem? (i := 107) rfl) rfl, lk_in1 (List.mem_of_getElem? (i := 9) rfl) rfl, lk_in3 (List.mem_of_getElem? (i := 108) rfl) rfl, ⟨by decide +kernel, by decide +kernel, by decide +kernel⟩, by decide⟩
abbrev mX7_isFromBelow : lk_M := (yX7_isFromBelow, cX7_isFromBelow, 3, (some .boolean))
theorem vX7_isFromBelow : lk_cv mX7_isFromBelow 2 := ⟨lk_in3 (List.mem_of_getElem? (i := 124) rfl) rfl, lk_in3 (List.mem_of_getElem? (i := 125) rfl) rfl, lk_in1 (List.mem_of_getElem? (i := 9) rfl) rfl, lk_in3 (List.mem_of_getElem? (i := 126) rfl) rfl, ⟨by decide +kernel, by decide +kernel, by decide +kernel⟩, by decide⟩
abbrev mX7_weigh : lk_M := (yX7_weigh, cX7_weigh, 3, none)
theorem vX7_weigh : lk_cv mX7_weigh 2 := ⟨lk_in3 (List.mem_of_getElem? (i := 132) rfl) rfl, lk_in3 (List.mem_of_getElem? (i := 133) rfl) rfl, lk_in1 (List.mem_of_getElem? (i := 9) rfl) rfl, lk_in3 (List.mem_of_getElem? (i := 134) rfl) rfl, ⟨by decide +kernel, by decide +kernel, by decide +kernel⟩, by decide⟩
abbrev mX8_locks : lk_M := (yX8_locks, cX8_locks, 3, (some .int))
theorem vX8_locks : lk_cv mX8_locks 1 := ⟨lk_in2 (List.mem_of_getElem? (i := 59) rfl) rfl, lk_in2 (List.mem_of_getElem? (i := 60) rfl) rfl, lk_in1 (List.mem_of_getElem? (i := 1) rfl) rfl, lk_in2 (List.mem_of_getElem? (i := 61) rfl) rfl, ⟨by decide +kernel, by decide +kernel, by decide +kernel⟩, by decide⟩
abbrev mX8_isLockSetting : lk_M := (yX8_isLockSetting, cX8_isLockSetting, 2, (some .boolean))
theorem vX8_isLockSetting : lk_cs mX8_isLockSetting 2 := ⟨lk_in2 (List.mem_of_getElem? (i := 71) rfl) rfl, lk_in1 (List.mem_of_getElem? (i := 1) rfl) rfl, lk_in2 (List.mem_of_getElem? (i := 72) rfl) rfl, ⟨by decide +kernel, by decide +kernel, by decide +kernel⟩, by decide⟩
abbrev mX8_lock : lk_M := (yX8_lock, cX8_lock, 5, (some .int))
theorem vX8_lock : lk_cv mX8_lock 3 := ⟨lk_in2 (List.mem_of_getElem? (i := 63) rfl) rfl, lk_in2 (List.mem_of_getElem? (i := 64) rfl) rfl, lk_in1 (List.mem_of_getElem? (i := 1) rfl) rfl, lk_in2 (List.mem_of_getElem? (i := 65) rfl) rfl, ⟨by decide +kernel, by decide +kernel, by decide +kernel⟩, by decide⟩
abbrev mX8_ofLock : lk_M := (yX8_ofLock, cX8_ofLock, 3, (some .int))
theorem vX8_ofLock : lk_cv mX8_ofLock 2 := ⟨lk_in2 (List.mem_of_getElem? (i := 86) rfl) rfl, lk_in2 (List.mem_of_getElem? (i := 87) rfl) rfl, lk_in1 (List.mem_of_getElem? (i := 1) rfl) rfl, lk_in2 (List.mem_of_getElem? (i := 88) rfl) rfl, ⟨by decide +kernel, by decide +kernel, by decide +kernel⟩, by decide⟩
abbrev mX8_isReachSetting : lk_M := (yX8_isReachSetting, cX8_isReachSetting, 2, (some .boolean))
theorem vX8_isReachSetting : lk_cs mX8_isReachSetting 2 := ⟨lk_in2 (List.mem_of_getElem? (i := 98) rfl) rfl, lk_in1 (List.mem_of_getElem? (i := 1) rfl) rfl, lk_in2 (List.mem_of_getElem? (i := 99) rfl) rfl, ⟨by decide +kernel, by decide +kernel, by decide +kernel⟩, by decide⟩
abbrev mX8_reach : lk_M := (yX8_reach, cX8_reach, 8, (some .int))
theorem vX8_reach : lk_cv mX8_reach 3 := ⟨lk_in2 (List.mem_of_getElem? (i := 90) rfl) rfl, lk_in2 (List.mem_of_getElem? (i := 91) rfl) rfl, lk_in1 (List.mem_of_getElem? (i := 1) rfl) rfl, lk_in2 (List.mem_of_getElem? (i := 92) rfl) rfl, ⟨by decide +kernel, by decide +kernel, by decide +kernel⟩, by decide⟩
abbrev mX8_ofReach : lk_M := (yX8_ofReach, cX8_ofReach, 3, (some .int))
theorem vX8_ofReach : lk_cv mX8_ofReach 2 := ⟨lk_in2 (List.mem_of_getElem? (i := 109) rfl) rfl, lk_in2 (List.mem_of_getElem? (i := 110) rfl) rfl, lk_in1 (List.mem_of_getElem? (i := 1) rfl) rfl, lk_in2 (List.mem_of_getElem? (i := 111) rfl) rfl, ⟨by decide +kernel, by decide +kernel, by decide +kernel⟩, by decide⟩
abbrev mX8_feeds : lk_M := (yX8_feeds, cX8_feeds, 3, (some .int))
theorem vX8_feeds : lk_cv mX8_feeds 1 := ⟨lk_in2 (List.mem_of_getElem? (i := 117) rfl) rfl, lk_in2 (List.mem_of_getElem? (i := 118) rfl) rfl, lk_in1 (List.mem_of_getElem? (i := 1) rfl) rfl, lk_in2 (List.mem_of_getElem? (i := 119) rfl) rfl, ⟨by decide +kernel, by decide +kernel, by decide +kernel⟩, by decide⟩
abbrev mX8_feed : lk_M := (yX8_feed, cX8_feed, 2, (some .int))
theorem vX8_feed : lk_cv mX8_feed 1 := ⟨lk_in2 (List.mem_of_getElem? (i := 121) rfl) rfl, lk_in2 (List.mem_of_getElem? (i := 122) rfl) rfl, lk_in1 (List.mem_of_getElem? (i := 1) rfl) rfl, lk_in2 (List.mem_of_getElem? (i := 123) rfl) rfl, ⟨by decide +kernel, by decide +kernel, by decide +kernel⟩, by decide⟩
abbrev mX8_takeFleetInThought : lk_M := (yX8_takeFleetInThought, cX8_takeFleetInThought, 2, (some .int))
theorem vX8_takeFleetInThought : lk_cv mX8_takeFleetInThought 1 := ⟨lk_in2 (List.mem_of_getElem? (i := 181) rfl) rfl, lk_inS (List.mem_of_getElem? (i := 6) rfl) rfl, lk_in1 (List.mem_of_getElem? (i := 1) rfl) rfl, lk_in2 (List.mem_of_getElem? (i := 182) rfl) rfl, ⟨by decide +kernel, by decide +kernel, by decide +kernel⟩, by decide⟩
abbrev mX8_readBoats : lk_M := (yX8_readBoats, cX8_readBoats, 2, (some .int))
theorem vX8_readBoats : lk_cv mX8_readBoats 0 := ⟨lk_in2 (List.mem_of_getElem? (i := 134) rfl) rfl, lk_inS (List.mem_of_getElem? (i := 0) rfl) rfl, lk_in1 (List.mem_of_getElem? (i := 1) rfl) rfl, lk_in2 (List.mem_of_getElem? (i := 135) rfl) rfl, ⟨by decide +kernel, by decide +kernel, by decide +kernel⟩, by decide⟩
abbrev mX8_boats : lk_M := (yX8_boats, cX8_boats, 2, (some .int))
theorem vX8_boats : lk_cv mX8_boats 0 := ⟨lk_in2 (List.mem_of_getElem? (i := 129) rfl) rfl, lk_in2 (List.mem_of_getElem? (i := 130) rfl) rfl, lk_in1 (List.mem_of_getElem? (i := 1) rfl) rfl, lk_in2 (List.mem_of_getElem? (i := 131) rfl) rfl, ⟨by decide +kernel, by decide +kernel, by decide +kernel⟩, by decide⟩
abbrev mX8_boat : lk_M := (yX8_boat, cX8_boat, 3, (some .int))
theorem vX8_boat : lk_cv mX8_boat 2 := ⟨lk_in2 (List.mem_of_getElem? (i := 188) rfl) rfl, lk_in2 (List.mem_of_getElem? (i := 189) rfl) rfl, lk_in1 (List.mem_of_getElem? (i := 1) rfl) rfl, lk_in2 (List.mem_of_getElem? (i := 190) rfl) rfl, ⟨by decide +kernel, by decide +kernel, by decide +kernel⟩, by decide⟩
abbrev mX8_find : lk_M := (yX8_find, cX8_find, 3, (some .int))
theorem vX8_find : lk_cv mX8_find 0 := ⟨lk_in2 (List.mem_of_getElem? (i := 210) rfl) rfl, lk_in2 (List.mem_of_getElem? (i := 211) rfl) rfl, lk_in1 (List.mem_of_getElem? (i := 1) rfl) rfl, lk_in2 (List.mem_of_getElem? (i := 212) rfl) rfl, ⟨by decide +kernel, by decide +kernel, by decide +kernel⟩, by decide⟩
abbrev mX8_leaves : lk_M := (yX8_leaves, cX8_leaves, 2, (some .int))
theorem vX8_leaves : lk_cv mX8_leaves 1 := ⟨lk_in2 (List.mem_of_getElem? (i := 219) rfl) rfl, lk_in2 (List.mem_of_getElem? (i := 220) rfl) rfl, lk_in1 (List.mem_of_getElem? (i := 1) rfl) rfl, lk_in2 (List.mem_of_getElem? (i := 221) rfl) rfl, ⟨by decide +kernel, by decide +kernel, by decide +kernel⟩, by decide⟩
abbrev mX8_about : lk_M := (yX8_about, cX8_about, 2, (some .int))
theorem vX8_about : lk_cv mX8_about 1 := ⟨lk_in2 (List.mem_of_getElem? (i := 227) rfl) rfl, lk_in2 (List.mem_of_getElem? (i := 228) rfl) rfl, lk_in1 (List.mem_of_getElem? (i := 1) rfl) rfl, lk_in2 (List.mem_of_getElem? (i := 229) rfl) rfl, ⟨by decide +kernel, by decide +kernel, by decide +kernel⟩, by decide⟩
abbrev mX8_pass : lk_M := (yX8_pass, cX8_pass, 5, (some .int))
theorem vX8_pass : lk_cv mX8_pass 1 := ⟨lk_in2 (List.mem_of_getElem? (i := 231) rfl) rfl, lk_in2 (List.mem_of_getElem? (i := 232) rfl) rfl, lk_in1 (List.mem_of_getElem? (i := 1) rfl) rfl, lk_in2 (List.mem_of_getElem? (i := 233) rfl) rfl, ⟨by decide +kernel, by decide +kernel, by decide +kernel⟩, by decide⟩
abbrev mX8_through : lk_M := (yX8_through, cX8_through, 3, (some .int))
theorem vX8_through : lk_cv mX8_through 1 := ⟨lk_in3 (List.mem_of_getElem? (i := 31) rfl) rfl, lk_in3 (List.mem_of_getElem? (i := 32) rfl) rfl, lk_in1 (List.mem_of_getElem? (i := 1) rfl) rfl, lk_in3 (List.mem_of_getElem? (i := 33) rfl) rfl, ⟨by decide +kernel, by decide +kernel, by decide +kernel⟩, by decide⟩
abbrev mX8_costs : lk_M := (yX8_costs, cX8_costs, 2, (some .int))
theorem vX8_costs : lk_cv mX8_costs 1 := ⟨lk_in3 (List.mem_of_getElem? (i := 41) rfl) rfl, lk_in3 (List.mem_of_getElem? (i := 42) rfl) rfl, lk_in1 (List.mem_of_getElem? (i := 1) rfl) rfl, lk_in3 (List.mem_of_getElem? (i := 43) rfl) rfl, ⟨by decide +kernel, by decide +kernel, by decide +kernel⟩, by decide⟩
abbrev mX8_why : lk_M := (yX8_why, cX8_why, 2, (some .int))
theorem vX8_why : lk_cv mX8_why 1 := ⟨lk_in3 (List.mem_of_getElem? (i := 59) rfl) rfl, lk_in3 (List.mem_of_getElem? (i := 60) rfl) rfl, lk_in1 (List.mem_of_getElem? (i := 1) rfl) rfl, lk_in3 (List.mem_of_getElem? (i := 61) rfl) rfl, ⟨by decide +kernel, by decide +kernel, by decide +kernel⟩, by decide⟩
abbrev mX8_lineUp : lk_M := (yX8_lineUp, cX8_lineUp, 2, none)
theorem vX8_lineUp : lk_cv mX8_lineUp 1 := ⟨lk_in3 (List.mem_of_getElem? (i := 72) rfl) rfl, lk_inS (List.mem_of_getElem? (i := 12) rfl) rfl, lk_in1 (List.mem_of_getElem? (i := 1) rfl) rfl, lk_in3 (List.mem_of_getElem? (i := 73) rfl) rfl, ⟨by decide +kernel, by decide +kernel, by decide +kernel⟩, by decide⟩
abbrev mX8_queue : lk_M := (yX8_queue, cX8_queue, 3, (some .int))
theorem vX8_queue : lk_cv mX8_queue 2 := ⟨lk_in3 (List.mem_of_getElem? (i := 67) rfl) rfl, lk_in3 (List.mem_of_getElem? (i := 68) rfl) rfl, lk_in1 (List.mem_of_getElem? (i := 1) rfl) rfl, lk_in3 (List.mem_of_getElem? (i := 69) rfl) rfl, ⟨by decide +kernel, by decide +kernel, by decide +kernel⟩, by decide⟩
abbrev mX8_spentByOrder : lk_M := (yX8_spentByOrder, cX8_spentByOrder, 10, (some .int))
theorem vX8_spentByOrder : lk_cv mX8_spentByOrder 2 := ⟨lk_in3 (List.mem_of_getElem? (i := 121) rfl) rfl, lk_inS (List.mem_of_getElem? (i := 15) rfl) rfl, lk_in1 (List.mem_of_getElem? (i := 1) rfl) rfl, lk_in3 (List.mem_of_getElem? (i := 122) rfl) rfl, ⟨by decide +kernel, by decide +kernel, by decide +kernel⟩, by decide⟩
abbrev mX8_weaveOrders : lk_M := (yX8_weaveOrders, cX8_weaveOrders, 4, none)
theorem vX8_weaveOrders : lk_cv mX8_weaveOrders 1 := ⟨lk_in3 (List.mem_of_getElem? (i := 96) rfl) rfl, lk_inS (List.mem_of_getElem? (i := 14) rfl) rfl, lk_in1 (List.mem_of_getElem? (i := 1) rfl) rfl, lk_in3 (List.mem_of_getElem? (i := 97) rfl) rfl, ⟨by decide +kernel, by decide +kernel, by decide +kernel⟩, by decide⟩
abbrev mX8_orders : lk_M := (yX8_orders, cX8_orders, 2, (some .int))
theorem vX8_orders : lk_cv mX8_orders 1 := ⟨lk_in3 (List.mem_of_getElem? (i := 91) rfl) rfl, lk_in3 (List.mem_of_getElem? (i := 92) rfl) rfl, lk_in1 (List.mem_of_getElem? (i := 1) rfl) rfl, lk_in3 (List.mem_of_getElem? (i := 93) rfl) rfl, ⟨by decide +kernel, by decide +kernel, by decide +kernel⟩, by decide⟩
abbrev mX8_boatOfBest : lk_M := (yX8_boatOfBest, cX8_boatOfBest, 5, (some .int))
theorem vX8_boatOfBest : lk_cv mX8_boatOfBest 1 := ⟨lk_in3 (List.mem_of_getElem? (i := 142) rfl) rfl, lk_inS (List.mem_of_getElem? (i := 16) rfl) rfl, lk_in1 (List.mem_of_getElem? (i := 1) rfl) rfl, lk_in3 (List.mem_of_getElem? (i := 143) rfl) rfl, ⟨by decide +kernel, by decide +kernel, by decide +kernel⟩, by decide⟩
abbrev mX8_best : lk_M := (yX8_best, cX8_best, 3, (some .int))
theorem vX8_best : lk_cv mX8_best 2 := ⟨lk_in3 (List.mem_of_getElem? (i := 137) rfl) rfl, lk_in3 (List.mem_of_getElem? (i := 138) rfl) rfl, lk_in1 (List.mem_of_getElem? (i := 1) rfl) rfl, lk_in3 (List.mem_of_getElem? (i := 139) rfl) rfl, ⟨by decide +kernel, by decide +kernel, by decide +kernel⟩, by decide⟩
abbrev mX8_isRule : lk_M := (yX8_isRule, cX8_isRule, 1, (some .boolean))
theorem vX8_isRule : lk_cs mX8_isRule 1 := ⟨lk_in3 (List.mem_of_getElem? (i := 149) rfl) rfl, lk_in1 (List.mem_of_getElem? (i := 1) rfl) rfl, lk_in3 (List.mem_of_getElem? (i := 150) rfl) rfl, ⟨by decide +kernel, by decide +kernel, by decide +kernel⟩, by decide⟩
abbrev mX8_runInThought : lk_M := (yX8_runInThought, cX8_runInThought, 3, none)
theorem vX8_runInThought : lk_cv mX8_runInThought 2 := ⟨lk_in3 (List.mem_of_getElem? (i := 153) rfl) rfl, lk_inS (List.mem_of_getElem? (i := 17) rfl) rfl, lk_in1 (List.mem_of_getElem? (i := 1) rfl) rfl, lk_in3 (List.mem_of_getElem? (i := 154) rfl) rfl, ⟨by decide +kernel, by decide +kernel, by decide +kernel⟩, by decide⟩
abbrev mX8_ruled : lk_M := (yX8_ruled, cX8_ruled, 4, (some .int))
theorem vX8_ruled : lk_cv mX8_ruled 3 := ⟨lk_in3 (List.mem_of_getElem? (i := 145) rfl) rfl, lk_in3 (List.mem_of_getElem? (i := 146) rfl) rfl, lk_in1 (List.mem_of_getElem? (i := 1) rfl) rfl, lk_in3 (List.mem_of_getElem? (i := 147) rfl) rfl, ⟨by decide +kernel, by decide +kernel, by decide +kernel⟩, by decide⟩
abbrev mX8_moveOnFirst : lk_M := (yX8_moveOnFirst, cX8_moveOnFirst, 4, none)
theorem vX8_moveOnFirst : lk_cv mX8_moveOnFirst 2 := ⟨lk_in3 (List.mem_of_getElem? (i := 182) rfl) rfl, lk_inS (List.mem_of_getElem? (i := 19) rfl) rfl, lk_in1 (List.mem_of_getElem? (i := 1) rfl) rfl, lk_in3 (List.mem_of_getElem? (i := 183) rfl) rfl, ⟨by decide +kernel, by decide +kernel, by decide +kernel⟩, by decide⟩
abbrev mX8_run : lk_M := (yX8_run, cX8_run, 3, (some .int))
theorem vX8_run : lk_cv mX8_run 2 := ⟨lk_in3 (List.mem_of_getElem? (i := 177) rfl) rfl, lk_in3 (List.mem_of_getElem? (i := 178) rfl) rfl, lk_in1 (List.mem_of_getElem? (i := 1) rfl) rfl, lk_in3 (List.mem_of_getElem? (i := 179) rfl) rfl, ⟨by decide +kernel, by decide +kernel, by decide +kernel⟩, by decide⟩
abbrev mX8_keeper : lk_M := (yX8_keeper, cX8_keeper, 7, (some .int))
theorem vX8_keeper : lk_cv mX8_keeper 1 := ⟨lk_in3 (List.mem_of_getElem? (i := 185) rfl) rfl, lk_in3 (List.mem_of_getElem? (i := 186) rfl) rfl, lk_in1 (List.mem_of_getElem? (i := 1) rfl) rfl, lk_in3 (List.mem_of_getElem? (i := 187) rfl) rfl, ⟨by decide +kernel, by decide +kernel, by decide +kernel⟩, by decide⟩
abbrev mX8_isTraffic : lk_M := (yX8_isTraffic, cX8_isTraffic, 1, (some .boolean))
theorem vX8_isTraffic : lk_cs mX8_isTraffic 1 := ⟨lk_in3 (List.mem_of_getElem? (i := 193) rfl) rfl, lk_in1 (List.mem_of_getElem? (i := 1) rfl) rfl, lk_in3 (List.mem_of_getElem? (i := 194) rfl) rfl, ⟨by decide +kernel, by decide +kernel, by decide +kernel⟩, by decide⟩
abbrev mX8_day : lk_M := (yX8_day, cX8_day, 3, (some .int))
theorem vX8_day : lk_cv mX8_day 2 := ⟨lk_in3 (List.mem_of_getElem? (i := 189) rfl) rfl, lk_in3 (List.mem_of_getElem? (i := 190) rfl) rfl, lk_in1 (List.mem_of_getElem? (i := 1) rfl) rfl, lk_in3 (List.mem_of_getElem? (i := 191) rfl) rfl, ⟨by decide +kernel, by decide +kernel, by decide +kernel⟩, by decide⟩
abbrev mX8_dry : lk_M := (yX8_dry, cX8_dry, 5, (some .int))
theorem vX8_dry : lk_cv mX8_dry 3 := ⟨lk_in3 (List.mem_of_getElem? (i := 209) rfl) rfl, lk_in3 (List.mem_of_getElem? (i := 210) rfl) rfl, lk_in1 (List.mem_of_getElem? (i := 1) rfl) rfl, lk_in3 (List.mem_of_getElem? (i := 211) rfl) rfl, ⟨by decide +kernel, by decide +kernel, by decide +kernel⟩, by decide⟩
abbrev mX8_summitInThought : lk_M := (yX8_summitInThought, cX8_summitInThought, 5, (some .int))
theorem vX8_summitInThought : lk_cv mX8_summitInThought 3 := ⟨lk_in3 (List.mem_of_getElem? (i := 218) rfl) rfl, lk_inS (List.mem_of_getElem? (i := 21) rfl) rfl, lk_in1 (List.mem_of_getElem? (i := 1) rfl) rfl, lk_in3 (List.mem_of_getElem? (i := 219) rfl) rfl, ⟨by decide +kernel, by decide +kernel, by decide +kernel⟩, by decide⟩
abbrev mX8_pond : lk_M := (yX8_pond, cX8_pond, 8, (some .int))
theorem vX8_pond : lk_cv mX8_pond 3 := ⟨lk_in3 (List.mem_of_getElem? (i := 213) rfl) rfl, lk_in3 (List.mem_of_getElem? (i := 214) rfl) rfl, lk_in1 (List.mem_of_getElem? (i := 1) rfl) rfl, lk_in3 (List.mem_of_getElem? (i := 215) rfl) rfl, ⟨by decide +kernel, by decide +kernel, by decide +kernel⟩, by decide⟩
abbrev mX8_water : lk_M := (yX8_water, cX8_water, 1, (some .int))
theorem vX8_water : lk_cv mX8_water 0 := ⟨lk_in3 (List.mem_of_getElem? (i := 221) rfl) rfl, lk_in3 (List.mem_of_getElem? (i := 222) rfl) rfl, lk_in1 (List.mem_of_getElem? (i := 1) rfl) rfl, lk_in3 (List.mem_of_getElem? (i := 223) rfl) rfl, ⟨by decide +kernel, by decide +kernel, by decide +kernel⟩, by decide⟩
abbrev mX8_levels : lk_M := (yX8_levels, cX8_levels, 4, (some .int))
theorem vX8_levels : lk_cv mX8_levels 1 := ⟨lk_in3 (List.mem_of_getElem? (i := 229) rfl) rfl, lk_in3 (List.mem_of_getElem? (i := 230) rfl) rfl, lk_in1 (List.mem_of_getElem? (i := 1) rfl) rfl, lk_in3 (List.mem_of_getElem? (i := 231) rfl) rfl, ⟨by decide +kernel, by decide +kernel, by decide +kernel⟩, by decide⟩
abbrev mX8_tally : lk_M := (yX8_tally, cX8_tally, 3, (some .int))
theorem vX8_tally : lk_cv mX8_tally 2 := ⟨lk_in3 (List.mem_of_getElem? (i := 237) rfl) rfl, lk_in3 (List.mem_of_getElem? (i := 238) rfl) rfl, lk_in1 (List.mem_of_getElem? (i := 1) rfl) rfl, lk_in3 (List.mem_of_getElem? (i := 239) rfl) rfl, ⟨by decide +kernel, by decide +kernel, by decide +kernel⟩, by decide⟩
abbrev mX8_pays : lk_M := (yX8_pays, cX8_pays, 10, (some .int))
theorem vX8_pays : lk_cv mX8_pays 2 := ⟨lk_in4 (List.mem_of_getElem? (i := 14) rfl) rfl, lk_in4 (List.mem_of_getElem? (i := 15) rfl) rfl, lk_in1 (List.mem_of_getElem? (i := 1) rfl) rfl, lk_in4 (List.mem_of_getElem? (i := 16) rfl) rfl, ⟨by decide +kernel, by decide +kernel, by decide +kernel⟩, by decide⟩
abbrev mX8_account : lk_M := (yX8_account, cX8_account, 1, (some .long))
theorem vX8_account : lk_cv mX8_account 0 := ⟨lk_in4 (List.mem_of_getElem? (i := 20) rfl) rfl, lk_in4 (List.mem_of_getElem? (i := 21) rfl) rfl, lk_in1 (List.mem_of_getElem? (i := 1) rfl) rfl, lk_in4 (List.mem_of_getElem? (i := 22) rfl) rfl, ⟨by decide +kernel, by decide +kernel, by decide +kernel⟩, by decide⟩
abbrev mX8_image : lk_M := (yX8_image, cX8_image, 1, (some .int))
theorem vX8_image : lk_cv mX8_image 0 := ⟨lk_in4 (List.mem_of_getElem? (i := 24) rfl) rfl, lk_in4 (List.mem_of_getElem? (i := 25) rfl) rfl, lk_in1 (List.mem_of_getElem? (i := 1) rfl) rfl, lk_in4 (List.mem_of_getElem? (i := 26) rfl) rfl, ⟨by decide +kernel, by decide +kernel, by decide +kernel⟩, by decide⟩
abbrev mX8_undo : lk_M := (yX8_undo, cX8_undo, 1, (some .int))
theorem vX8_undo : lk_cv mX8_undo 0 := ⟨lk_in4 (List.mem_of_getElem? (i := 28) rfl) rfl, lk_in4 (List.mem_of_getElem? (i := 29) rfl) rfl, lk_in1 (List.mem_of_getElem? (i := 1) rfl) rfl, lk_in4 (List.mem_of_getElem? (i := 30) rfl) rfl, ⟨by decide +kernel, by decide +kernel, by decide +kernel⟩, by decide⟩
abbrev mX8_count : lk_M := (yX8_count, cX8_count, 2, (some .int))
theorem vX8_count : lk_cv mX8_count 1 := ⟨lk_in4 (List.mem_of_getElem? (i := 32) rfl) rfl, lk_in4 (List.mem_of_getElem? (i := 33) rfl) rfl, lk_in1 (List.mem_of_getElem? (i := 1) rfl) rfl, lk_in4 (List.mem_of_getElem? (i := 34) rfl) rfl, ⟨by decide +kernel, by decide +kernel, by decide +kernel⟩, by decide⟩
abbrev mX9_begins : lk_M := (yX9_begins, cX9_begins, 3, none)
theorem vX9_begins : lk_cv mX9_begins 1 := ⟨lk_in4 (List.mem_of_getElem? (i := 47) rfl) rfl, lk_inS (List.mem_of_getElem? (i := 22) rfl) rfl, lk_in1 (List.mem_of_getElem? (i := 10) rfl) rfl, lk_in4 (List.mem_of_getElem? (i := 48) rfl) rfl, ⟨by decide +kernel, by decide +kernel, by decide +kernel⟩, by decide⟩
abbrev mX9_within : lk_M := (yX9_within, cX9_within, 3, (some .boolean))
theorem vX9_within : lk_cs mX9_within 3 := ⟨lk_in4 (List.mem_of_getElem? (i := 142) rfl) rfl, lk_in1 (List.mem_of_getElem? (i := 10) rfl) rfl, lk_in4 (List.mem_of_getElem? (i := 143) rfl) rfl, ⟨by decide +kernel, by decide +kernel, by decide +kernel⟩, by decide⟩
abbrev mX9_becomes : lk_M := (yX9_becomes, cX9_becomes, 4, (some .int))
theorem vX9_becomes : lk_cv mX9_becomes 2 := ⟨lk_in4 (List.mem_of_getElem? (i := 154) rfl) rfl, lk_inS (List.mem_of_getElem? (i := 24) rfl) rfl, lk_in1 (List.mem_of_getElem? (i := 10) rfl) rfl, lk_in4 (List.mem_of_getElem? (i := 155) rfl) rfl, ⟨by decide +kernel, by decide +kernel, by decide +kernel⟩, by decide⟩
abbrev mX9_isLock : lk_M := (yX9_isLock, cX9_isLock, 2, (some .boolean))
theorem vX9_isLock : lk_cv mX9_isLock 1 := ⟨lk_in4 (List.mem_of_getElem? (i := 150) rfl) rfl, lk_inS (List.mem_of_getElem? (i := 23) rfl) rfl, lk_in1 (List.mem_of_getElem? (i := 10) rfl) rfl, lk_in4 (List.mem_of_getElem? (i := 151) rfl) rfl, ⟨by decide +kernel, by decide +kernel, by decide +kernel⟩, by decide⟩
abbrev mX9_isReach : lk_M := (yX9_isReach, cX9_isReach, 2, (some .boolean))
theorem vX9_isReach : lk_cv mX9_isReach 1 := ⟨lk_in4 (List.mem_of_getElem? (i := 170) rfl) rfl, lk_inS (List.mem_of_getElem? (i := 26) rfl) rfl, lk_in1 (List.mem_of_getElem? (i := 10) rfl) rfl, lk_in4 (List.mem_of_getElem? (i := 171) rfl) rfl, ⟨by decide +kernel, by decide +kernel, by decide +kernel⟩, by decide⟩
abbrev mX9_isBoat : lk_M := (yX9_isBoat, cX9_isBoat, 2, (some .boolean))
theorem vX9_isBoat : lk_cv mX9_isBoat 1 := ⟨lk_in4 (List.mem_of_getElem? (i := 233) rfl) rfl, lk_inS (List.mem_of_getElem? (i := 36) rfl) rfl, lk_in1 (List.mem_of_getElem? (i := 10) rfl) rfl, lk_in4 (List.mem_of_getElem? (i := 234) rfl) rfl, ⟨by decide +kernel, by decide +kernel, by decide +kernel⟩, by decide⟩
abbrev mX9_pours : lk_M := (yX9_pours, cX9_pours, 3, none)
theorem vX9_pours : lk_cs mX9_pours 2 := ⟨lk_in4 (List.mem_of_getElem? (i := 209) rfl) rfl, lk_in1 (List.mem_of_getElem? (i := 10) rfl) rfl, lk_in4 (List.mem_of_getElem? (i := 210) rfl) rfl, ⟨by decide +kernel, by decide +kernel, by decide +kernel⟩, by decide⟩
abbrev mX9_locks : lk_M := (yX9_locks, cX9_locks, 3, (some .int))
theorem vX9_locks : lk_cv mX9_locks 1 := ⟨lk_in4 (List.mem_of_getElem? (i := 138) rfl) rfl, lk_in4 (List.mem_of_getElem? (i := 139) rfl) rfl, lk_in1 (List.mem_of_getElem? (i := 10) rfl) rfl, lk_in4 (List.mem_of_getElem? (i := 140) rfl) rfl, ⟨by decide +kernel, by decide +kernel, by decide +kernel⟩, by decide⟩
abbrev mX9_lock : lk_M := (yX9_lock, cX9_lock, 4, (some .int))
theorem vX9_lock : lk_cv mX9_lock 3 := ⟨lk_in4 (List.mem_of_getElem? (i := 145) rfl) rfl, lk_in4 (List.mem_of_getElem? (i := 146) rfl) rfl, lk_in1 (List.mem_of_getElem? (i := 10) rfl) rfl, lk_in4 (List.mem_of_getElem? (i := 147) rfl) rfl, ⟨by decide +kernel, by decide +kernel, by decide +kernel⟩, by decide⟩
abbrev mX9_share : lk_M := (yX9_share, cX9_share, 2, (some .int))
theorem vX9_share : lk_cv mX9_share 1 := ⟨lk_in4 (List.mem_of_getElem? (i := 162) rfl) rfl, lk_inS (List.mem_of_getElem? (i := 25) rfl) rfl, lk_in1 (List.mem_of_getElem? (i := 10) rfl) rfl, lk_in4 (List.mem_of_getElem? (i := 163) rfl) rfl, ⟨by decide +kernel, by decide +kernel, by decide +kernel⟩, by decide⟩
abbrev mX9_ofLock : lk_M := (yX9_ofLock, cX9_ofLock, 3, (some .int))
theorem vX9_ofLock : lk_cv mX9_ofLock 2 := ⟨lk_in4 (List.mem_of_getElem? (i := 157) rfl) rfl, lk_in4 (List.mem_of_getElem? (i := 158) rfl) rfl, lk_in1 (List.mem_of_getElem? (i := 10) rfl) rfl, lk_in4 (List.mem_of_getElem? (i := 159) rfl) rfl, ⟨by decide +kernel, by decide +kernel, by decide +kernel⟩, by decide⟩
abbrev mX9_reach : lk_M := (yX9_reach, cX9_reach, 7, (some .int))
theorem vX9_reach : lk_cv mX9_reach 3 := ⟨lk_in4 (List.mem_of_getElem? (i := 165) rfl) rfl, lk_in4 (List.mem_of_getElem? (i := 166) rfl) rfl, lk_in1 (List.mem_of_getElem? (i := 10) rfl) rfl, lk_in4 (List.mem_of_getElem? (i := 167) rfl) rfl, ⟨by decide +kernel, by decide +kernel, by decide +kernel⟩, by decide⟩
abbrev mX9_ofReach : lk_M := (yX9_ofReach, cX9_ofReach, 5, (some .int))
theorem vX9_ofReach : lk_cv mX9_ofReach 2 := ⟨lk_in4 (List.mem_of_getElem? (i := 173) rfl) rfl, lk_in4 (List.mem_of_getElem? (i := 174) rfl) rfl, lk_in1 (List.mem_of_getElem? (i := 10) rfl) rfl, lk_in4 (List.mem_of_getElem? (i := 175) rfl) rfl, ⟨by decide +kernel, by decide +kernel, by decide +kernel⟩, by decide⟩
abbrev mX9_feeds : lk_M := (yX9_feeds, cX9_feeds, 2, (some .int))
theorem vX9_feeds : lk_cv mX9_feeds 1 := ⟨lk_in4 (List.mem_of_getElem? (i := 177) rfl) rfl, lk_in4 (List.mem_of_getElem? (i := 178) rfl) rfl, lk_in1 (List.mem_of_getElem? (i := 10) rfl) rfl, lk_in4 (List.mem_of_getElem? (i := 179) rfl) rfl, ⟨by decide +kernel, by decide +kernel, by decide +kernel⟩, by decide⟩
abbrev mX9_feed : lk_M := (yX9_feed, cX9_feed, 2, (some .int))
theorem vX9_feed : lk_cv mX9_feed 1 := ⟨lk_in4 (List.mem_of_getElem? (i := 181) rfl) rfl, lk_in4 (List.mem_of_getElem? (i := 182) rfl) rfl, lk_in1 (List.mem_of_getElem? (i := 10) rfl) rfl, lk_in4 (List.mem_of_getElem? (i := 183) rfl) rfl, ⟨by decide +kernel, by decide +kernel, by decide +kernel⟩, by decide⟩
abbrev mX9_isFrom : lk_M := (yX9_isFrom, cX9_isFrom, 3, (some .boolean))
theorem vX9_isFrom : lk_cv mX9_isFrom 2 := ⟨lk_in4 (List.mem_of_getElem? (i := 198) rfl) rfl, lk_inS (List.mem_of_getElem? (i := 29) rfl) rfl, lk_in1 (List.mem_of_getElem? (i := 10) rfl) rfl, lk_in4 (List.mem_of_getElem? (i := 199) rfl) rfl, ⟨by decide +kernel, by decide +kernel, by decide +kernel⟩, by decide⟩
abbrev mX9_wrong : lk_M := (yX9_wrong, cX9_wrong, 1, none)
theorem vX9_wrong : lk_cv mX9_wrong 0 := ⟨lk_in4 (List.mem_of_getElem? (i := 202) rfl) rfl, lk_inS (List.mem_of_getElem? (i := 30) rfl) rfl, lk_in1 (List.mem_of_getElem? (i := 10) rfl) rfl, lk_in4 (List.mem_of_getElem? (i := 203) rfl) rfl, ⟨by decide +kernel, by decide +kernel, by decide +kernel⟩, by decide⟩
abbrev mX9_name : lk_M := (yX9_name, cX9_name, 4, (some .int))
theorem vX9_name : lk_cv mX9_name 0 := ⟨lk_in4 (List.mem_of_getElem? (i := 194) rfl) rfl, lk_inS (List.mem_of_getElem? (i := 28) rfl) rfl, lk_in1 (List.mem_of_getElem? (i := 10) rfl) rfl, lk_in4 (List.mem_of_getElem? (i := 195) rfl) rfl, ⟨by decide +kernel, by decide +kernel, by decide +kernel⟩, by decide⟩
abbrev mX9_figure : lk_M := (yX9_figure, cX9_figure, 2, (some .int))
theorem vX9_figure : lk_cv mX9_figure 1 := ⟨lk_in4 (List.mem_of_getElem? (i := 206) rfl) rfl, lk_inS (List.mem_of_getElem? (i := 31) rfl) rfl, lk_in1 (List.mem_of_getElem? (i := 10) rfl) rfl, lk_in4 (List.mem_of_getElem? (i := 207) rfl) rfl, ⟨by decide +kernel, by decide +kernel, by decide +kernel⟩, by decide⟩
abbrev mX9_readsBoat : lk_M := (yX9_readsBoat, cX9_readsBoat, 2, none)
theorem vX9_readsBoat : lk_cv mX9_readsBoat 0 := ⟨lk_in4 (List.mem_of_getElem? (i := 190) rfl) rfl, lk_inS (List.mem_of_getElem? (i := 27) rfl) rfl, lk_in1 (List.mem_of_getElem? (i := 10) rfl) rfl, lk_in4 (List.mem_of_getElem? (i := 191) rfl) rfl, ⟨by decide +kernel, by decide +kernel, by decide +kernel⟩, by decide⟩
abbrev mX9_where : lk_M := (yX9_where, cX9_where, 3, (some .int))
theorem vX9_where : lk_cv mX9_where 1 := ⟨lk_in4 (List.mem_of_getElem? (i := 217) rfl) rfl, lk_inS (List.mem_of_getElem? (i := 33) rfl) rfl, lk_in1 (List.mem_of_getElem? (i := 10) rfl) rfl, lk_in4 (List.mem_of_getElem? (i := 218) rfl) rfl, ⟨by decide +kernel, by decide +kernel, by decide +kernel⟩, by decide⟩
abbrev mX9_isThere : lk_M := (yX9_isThere, cX9_isThere, 3, (some .boolean))
theorem vX9_isThere : lk_cv mX9_isThere 2 := ⟨lk_in4 (List.mem_of_getElem? (i := 221) rfl) rfl, lk_inS (List.mem_of_getElem? (i := 34) rfl) rfl, lk_in1 (List.mem_of_getElem? (i := 10) rfl) rfl, lk_in4 (List.mem_of_getElem? (i := 222) rfl) rfl, ⟨by decide +kernel, by decide +kernel, by decide +kernel⟩, by decide⟩
abbrev mX9_shifts : lk_M := (yX9_shifts, cX9_shifts, 4, none)
theorem vX9_shifts : lk_cv mX9_shifts 2 := ⟨lk_in4 (List.mem_of_getElem? (i := 225) rfl) rfl, lk_inS (List.mem_of_getElem? (i := 35) rfl) rfl, lk_in1 (List.mem_of_getElem? (i := 10) rfl) rfl, lk_in4 (List.mem_of_getElem? (i := 226) rfl) rfl, ⟨by decide +kernel, by decide +kernel, by decide +kernel⟩, by decide⟩
abbrev mX9_comes : lk_M := (yX9_comes, cX9_comes, 4, (some .boolean))
theorem vX9_comes : lk_cv mX9_comes 1 := ⟨lk_in4 (List.mem_of_getElem? (i := 213) rfl) rfl, lk_inS (List.mem_of_getElem? (i := 32) rfl) rfl, lk_in1 (List.mem_of_getElem? (i := 10) rfl) rfl, lk_in4 (List.mem_of_getElem? (i := 214) rfl) rfl, ⟨by decide +kernel, by decide +kernel, by decide +kernel⟩, by decide⟩
abbrev mX9_boats : lk_M := (yX9_boats, cX9_boats, 2, (some .int))
theorem vX9_boats : lk_cv mX9_boats 0 := ⟨lk_in4 (List.mem_of_getElem? (i := 185) rfl) rfl, lk_in4 (List.mem_of_getElem? (i := 186) rfl) rfl, lk_in1 (List.mem_of_getElem? (i := 10) rfl) rfl, lk_in4 (List.mem_of_getElem? (i := 187) rfl) rfl, ⟨by decide +kernel, by decide +kernel, by decide +kernel⟩, by decide⟩
abbrev mX9_letter : lk_M := (yX9_letter, cX9_letter, 4, (some .int))
theorem vX9_letter : lk_cs mX9_letter 2 := ⟨lk_in4 (List.mem_of_getElem? (i := 236) rfl) rfl, lk_in1 (List.mem_of_getElem? (i := 10) rfl) rfl, lk_in4 (List.mem_of_getElem? (i := 237) rfl) rfl, ⟨by decide +kernel, by decide +kernel, by decide +kernel⟩, by decide⟩
abbrev mX9_boat : lk_M := (yX9_boat, cX9_boat, 5, (some .int))
theorem vX9_boat : lk_cv mX9_boat 2 := ⟨lk_in4 (List.mem_of_getElem? (i := 228) rfl) rfl, lk_in4 (List.mem_of_getElem? (i := 229) rfl) rfl, lk_in1 (List.mem_of_getElem? (i := 10) rfl) rfl, lk_in4 (List.mem_of_getElem? (i := 230) rfl) rfl, ⟨by decide +kernel, by decide +kernel, by decide +kernel⟩, by decide⟩
abbrev mX9_find : lk_M := (yX9_find, cX9_find, 4, (some .int))
theorem vX9_find : lk_cv mX9_find 0 := ⟨lk_in4 (List.mem_of_getElem? (i := 239) rfl) rfl, lk_in5 (List.mem_of_getElem? (i := 0) rfl) rfl, lk_in1 (List.mem_of_getElem? (i := 10) rfl) rfl, lk_in5 (List.mem_of_getElem? (i := 1) rfl) rfl, ⟨by decide +kernel, by decide +kernel, by decide +kernel⟩, by decide⟩
abbrev mX9_leaves : lk_M := (yX9_leaves, cX9_leaves, 3, (some .int))
theorem vX9_leaves : lk_cv mX9_leaves 1 := ⟨lk_in5 (List.mem_of_getElem? (i := 3) rfl) rfl, lk_in5 (List.mem_of_getElem? (i := 4) rfl) rfl, lk_in1 (List.mem_of_getElem? (i := 10) rfl) rfl, lk_in5 (List.mem_of_getElem? (i := 5) rfl) rfl, ⟨by decide +kernel, by decide +kernel, by decide +kernel⟩, by decide⟩
abbrev mX9_about : lk_M := (yX9_about, cX9_about, 2, (some .int))
theorem vX9_about : lk_cv mX9_about 1 := ⟨lk_in5 (List.mem_of_getElem? (i := 7) rfl) rfl, lk_in5 (List.mem_of_getElem? (i := 8) rfl) rfl, lk_in1 (List.mem_of_getElem? (i := 10) rfl) rfl, lk_in5 (List.mem_of_getElem? (i := 9) rfl) rfl, ⟨by decide +kernel, by decide +kernel, by decide +kernel⟩, by decide⟩
abbrev mX9_flows : lk_M := (yX9_flows, cX9_flows, 7, (some .boolean))
theorem vX9_flows : lk_cv mX9_flows 4 := ⟨lk_in5 (List.mem_of_getElem? (i := 42) rfl) rfl, lk_inS (List.mem_of_getElem? (i := 43) rfl) rfl, lk_in1 (List.mem_of_getElem? (i := 10) rfl) rfl, lk_in5 (List.mem_of_getElem? (i := 43) rfl) rfl, ⟨by decide +kernel, by decide +kernel, by decide +kernel⟩, by decide⟩
abbrev mX9_fills : lk_M := (yX9_fills, cX9_fills, 2, (some .boolean))
theorem vX9_fills : lk_cv mX9_fills 1 := ⟨lk_in5 (List.mem_of_getElem? (i := 46) rfl) rfl, lk_inS (List.mem_of_getElem? (i := 44) rfl) rfl, lk_in1 (List.mem_of_getElem? (i := 10) rfl) rfl, lk_in5 (List.mem_of_getElem? (i := 47) rfl) rfl, ⟨by decide +kernel, by decide +kernel, by decide +kernel⟩, by decide⟩
abbrev mX9_empties : lk_M := (yX9_empties, cX9_empties, 2, (some .boolean))
theorem vX9_empties : lk_cv mX9_empties 1 := ⟨lk_in5 (List.mem_of_getElem? (i := 38) rfl) rfl, lk_inS (List.mem_of_getElem? (i := 42) rfl) rfl, lk_in1 (List.mem_of_getElem? (i := 10) rfl) rfl, lk_in5 (List.mem_of_getElem? (i := 39) rfl) rfl, ⟨by decide +kernel, by decide +kernel, by decide +kernel⟩, by decide⟩
abbrev mX9_goes : lk_M := (yX9_goes, cX9_goes, 9, (some .boolean))
theorem vX9_goes : lk_cv mX9_goes 3 := ⟨lk_in5 (List.mem_of_getElem? (i := 34) rfl) rfl, lk_inS (List.mem_of_getElem? (i := 41) rfl) rfl, lk_in1 (List.mem_of_getElem? (i := 10) rfl) rfl, lk_in5 (List.mem_of_getElem? (i := 35) rfl) rfl, ⟨by decide +kernel, by decide +kernel, by decide +kernel⟩, by decide⟩
abbrev mX9_goesTruly : lk_M := (yX9_goesTruly, cX9_goesTruly, 4, (some .boolean))
theorem vX9_goesTruly : lk_cv mX9_goesTruly 3 := ⟨lk_in5 (List.mem_of_getElem? (i := 30) rfl) rfl, lk_inS (List.mem_of_getElem? (i := 40) rfl) rfl, lk_in1 (List.mem_of_getElem? (i := 10) rfl) rfl, lk_in5 (List.mem_of_getElem? (i := 31) rfl) rfl, ⟨by decide +kernel, by decide +kernel, by decide +kernel⟩, by decide⟩
abbrev mX9_isUp : lk_M := (yX9_isUp, cX9_isUp, 2, (some .boolean))
theorem vX9_isUp : lk_cv mX9_isUp 1 := ⟨lk_in5 (List.mem_of_getElem? (i := 21) rfl) rfl, lk_inS (List.mem_of_getElem? (i := 38) rfl) rfl, lk_in1 (List.mem_of_getElem? (i := 10) rfl) rfl, lk_in5 (List.mem_of_getElem? (i := 22) rfl) rfl, ⟨by decide +kernel, by decide +kernel, by decide +kernel⟩, by decide⟩
abbrev mX9_lockOf : lk_M := (yX9_lockOf, cX9_lockOf, 3, (some .int))
theorem vX9_lockOf : lk_cv mX9_lockOf 1 := ⟨lk_in5 (List.mem_of_getElem? (i := 17) rfl) rfl, lk_inS (List.mem_of_getElem? (i := 37) rfl) rfl, lk_in1 (List.mem_of_getElem? (i := 10) rfl) rfl, lk_in5 (List.mem_of_getElem? (i := 18) rfl) rfl, ⟨by decide +kernel, by decide +kernel, by decide +kernel⟩, by decide⟩
abbrev mX9_boatGoes : lk_M := (yX9_boatGoes, cX9_boatGoes, 5, (some .boolean))
theorem vX9_boatGoes : lk_cv mX9_boatGoes 2 := ⟨lk_in5 (List.mem_of_getElem? (i := 26) rfl) rfl, lk_inS (List.mem_of_getElem? (i := 39) rfl) rfl, lk_in1 (List.mem_of_getElem? (i := 10) rfl) rfl, lk_in5 (List.mem_of_getElem? (i := 27) rfl) rfl, ⟨by decide +kernel, by decide +kernel, by decide +kernel⟩, by decide⟩
abbrev mX9_pass : lk_M := (yX9_pass, cX9_pass, 2, (some .int))
theorem vX9_pass : lk_cv mX9_pass 1 := ⟨lk_in5 (List.mem_of_getElem? (i := 11) rfl) rfl, lk_in5 (List.mem_of_getElem? (i := 12) rfl) rfl, lk_in1 (List.mem_of_getElem? (i := 10) rfl) rfl, lk_in5 (List.mem_of_getElem? (i := 13) rfl) rfl, ⟨by decide +kernel, by decide +kernel, by decide +kernel⟩, by decide⟩
abbrev mX9_through : lk_M := (yX9_through, cX9_through, 3, (some .int))
theorem vX9_through : lk_cv mX9_through 1 := ⟨lk_in5 (List.mem_of_getElem? (i := 50) rfl) rfl, lk_in5 (List.mem_of_getElem? (i := 51) rfl) rfl, lk_in1 (List.mem_of_getElem? (i := 10) rfl) rfl, lk_in5 (List.mem_of_getElem? (i := 52) rfl) rfl, ⟨by decide +kernel, by decide +kernel, by decide +kernel⟩, by decide⟩
abbrev mX9_costs : lk_M := (yX9_costs, cX9_costs, 6, (some .int))
theorem vX9_costs : lk_cv mX9_costs 1 := ⟨lk_in5 (List.mem_of_getElem? (i := 54) rfl) rfl, lk_in5 (List.mem_of_getElem? (i := 55) rfl) rfl, lk_in1 (List.mem_of_getElem? (i := 10) rfl) rfl, lk_in5 (List.mem_of_getElem? (i := 56) rfl) rfl, ⟨by decide +kernel, by decide +kernel, by decide +kernel⟩, by decide⟩
abbrev mX9_why : lk_M := (yX9_why, cX9_why, 2, (some .int))
theorem vX9_why : lk_cv mX9_why 1 := ⟨lk_in5 (List.mem_of_getElem? (i := 58) rfl) rfl, lk_in5 (List.mem_of_getElem? (i := 59) rfl) rfl, lk_in1 (List.mem_of_getElem? (i := 10) rfl) rfl, lk_in5 (List.mem_of_getElem? (i := 60) rfl) rfl, ⟨by decide +kernel, by decide +kernel, by decide +kernel⟩, by decide⟩
abbrev mX9_queues : lk_M := (yX9_queues, cX9_queues, 7, (some .int))
theorem vX9_queues : lk_cv mX9_queues 3 := ⟨lk_in5 (List.mem_of_getElem? (i := 71) rfl) rfl, lk_inS (List.mem_of_getElem? (i := 46) rfl) rfl, lk_in1 (List.mem_of_getElem? (i := 10) rfl) rfl, lk_in5 (List.mem_of_getElem? (i := 72) rfl) rfl, ⟨by decide +kernel, by decide +kernel, by decide +kernel⟩, by decide⟩
abbrev mX9_queuesOf : lk_M := (yX9_queuesOf, cX9_queuesOf, 2, none)
theorem vX9_queuesOf : lk_cv mX9_queuesOf 1 := ⟨lk_in5 (List.mem_of_getElem? (i := 67) rfl) rfl, lk_inS (List.mem_of_getElem? (i := 45) rfl) rfl, lk_in1 (List.mem_of_getElem? (i := 10) rfl) rfl, lk_in5 (List.mem_of_getElem? (i := 68) rfl) rfl, ⟨by decide +kernel, by decide +kernel, by decide +kernel⟩, by decide⟩
abbrev mX9_queue : lk_M := (yX9_queue, cX9_queue, 3, (some .int))
theorem vX9_queue : lk_cv mX9_queue 2 := ⟨lk_in5 (List.mem_of_getElem? (i := 62) rfl) rfl, lk_in5 (List.mem_of_getElem? (i := 63) rfl) rfl, lk_in1 (List.mem_of_getElem? (i := 10) rfl) rfl, lk_in5 (List.mem_of_getElem? (i := 64) rfl) rfl, ⟨by decide +kernel, by decide +kernel, by decide +kernel⟩, by decide⟩
abbrev mX9_weaves : lk_M := (yX9_weaves, cX9_weaves, 11, none)
theorem vX9_weaves : lk_cv mX9_weaves 4 := ⟨lk_in5 (List.mem_of_getElem? (i := 84) rfl) rfl, lk_inS (List.mem_of_getElem? (i := 48) rfl) rfl, lk_in1 (List.mem_of_getElem? (i := 10) rfl) rfl, lk_in5 (List.mem_of_getElem? (i := 85) rfl) rfl, ⟨by decide +kernel, by decide +kernel, by decide +kernel⟩, by decide⟩
abbrev mX9_weavesAll : lk_M := (yX9_weavesAll, cX9_weavesAll, 2, none)
theorem vX9_weavesAll : lk_cv mX9_weavesAll 1 := ⟨lk_in5 (List.mem_of_getElem? (i := 79) rfl) rfl, lk_inS (List.mem_of_getElem? (i := 47) rfl) rfl, lk_in1 (List.mem_of_getElem? (i := 10) rfl) rfl, lk_in5 (List.mem_of_getElem? (i := 80) rfl) rfl, ⟨by decide +kernel, by decide +kernel, by decide +kernel⟩, by decide⟩
abbrev mX9_orders : lk_M := (yX9_orders, cX9_orders, 2, (some .int))
theorem vX9_orders : lk_cv mX9_orders 1 := ⟨lk_in5 (List.mem_of_getElem? (i := 74) rfl) rfl, lk_in5 (List.mem_of_getElem? (i := 75) rfl) rfl, lk_in1 (List.mem_of_getElem? (i := 10) rfl) rfl, lk_in5 (List.mem_of_getElem? (i := 76) rfl) rfl, ⟨by decide +kernel, by decide +kernel, by decide +kernel⟩, by decide⟩
abbrev mX9_best : lk_M := (yX9_best, cX9_best, 4, (some .int))
theorem vX9_best : lk_cv mX9_best 2 := ⟨lk_in5 (List.mem_of_getElem? (i := 88) rfl) rfl, lk_in5 (List.mem_of_getElem? (i := 89) rfl) rfl, lk_in1 (List.mem_of_getElem? (i := 10) rfl) rfl, lk_in5 (List.mem_of_getElem? (i := 90) rfl) rfl, ⟨by decide +kernel, by decide +kernel, by decide +kernel⟩, by decide⟩
abbrev mX9_isFromBelow : lk_M := (yX9_isFromBelow, cX9_isFromBelow, 7, (some .boolean))
theorem vX9_isFromBelow : lk_cv mX9_isFromBelow 4 := ⟨lk_in5 (List.mem_of_getElem? (i := 101) rfl) rfl, lk_inS (List.mem_of_getElem? (i := 50) rfl) rfl, lk_in1 (List.mem_of_getElem? (i := 10) rfl) rfl, lk_in5 (List.mem_of_getElem? (i := 102) rfl) rfl, ⟨by decide +kernel, by decide +kernel, by decide +kernel⟩, by decide⟩
abbrev mX9_runs : lk_M := (yX9_runs, cX9_runs, 7, none)
theorem vX9_runs : lk_cv mX9_runs 3 := ⟨lk_in5 (List.mem_of_getElem? (i := 97) rfl) rfl, lk_inS (List.mem_of_getElem? (i := 49) rfl) rfl, lk_in1 (List.mem_of_getElem? (i := 10) rfl) rfl, lk_in5 (List.mem_of_getElem? (i := 98) rfl) rfl, ⟨by decide +kernel, by decide +kernel, by decide +kernel⟩, by decide⟩
abbrev mX9_ruled : lk_M := (yX9_ruled, cX9_ruled, 5, (some .int))
theorem vX9_ruled : lk_cv mX9_ruled 3 := ⟨lk_in5 (List.mem_of_getElem? (i := 92) rfl) rfl, lk_in5 (List.mem_of_getElem? (i := 93) rfl) rfl, lk_in1 (List.mem_of_getElem? (i := 10) rfl) rfl, lk_in5 (List.mem_of_getElem? (i := 94) rfl) rfl, ⟨by decide +kernel, by decide +kernel, by decide +kernel⟩, by decide⟩
abbrev mX9_run : lk_M := (yX9_run, cX9_run, 3, (some .int))
theorem vX9_run : lk_cv mX9_run 2 := ⟨lk_in5 (List.mem_of_getElem? (i := 104) rfl) rfl, lk_in5 (List.mem_of_getElem? (i := 105) rfl) rfl, lk_in1 (List.mem_of_getElem? (i := 10) rfl) rfl, lk_in5 (List.mem_of_getElem? (i := 106) rfl) rfl, ⟨by decide +kernel, by decide +kernel, by decide +kernel⟩, by decide⟩
abbrev mX9_keeper : lk_M := (yX9_keeper, cX9_keeper, 6, (some .int))
theorem vX9_keeper : lk_cv mX9_keeper 1 := ⟨lk_in5 (List.mem_of_getElem? (i := 108) rfl) rfl, lk_in5 (List.mem_of_getElem? (i := 109) rfl) rfl, lk_in1 (List.mem_of_getElem? (i := 10) rfl) rfl, lk_in5 (List.mem_of_getElem? (i := 110) rfl) rfl, ⟨by decide +kernel, by decide +kernel, by decide +kernel⟩, by decide⟩
abbrev mX9_crosses : lk_M := (yX9_crosses, cX9_crosses, 6, (some .boolean))
theorem vX9_crosses : lk_cv mX9_crosses 2 := ⟨lk_in5 (List.mem_of_getElem? (i := 125) rfl) rfl, lk_inS (List.mem_of_getElem? (i := 52) rfl) rfl, lk_in1 (List.mem_of_getElem? (i := 10) rfl) rfl, lk_in5 (List.mem_of_getElem? (i := 126) rfl) rfl, ⟨by decide +kernel, by decide +kernel, by decide +kernel⟩, by decide⟩
abbrev mX9_dayGoes : lk_M := (yX9_dayGoes, cX9_dayGoes, 9, none)
theorem vX9_dayGoes : lk_cv mX9_dayGoes 3 := ⟨lk_in5 (List.mem_of_getElem? (i := 120) rfl) rfl, lk_inS (List.mem_of_getElem? (i := 51) rfl) rfl, lk_in1 (List.mem_of_getElem? (i := 10) rfl) rfl, lk_in5 (List.mem_of_getElem? (i := 121) rfl) rfl, ⟨by decide +kernel, by decide +kernel, by decide +kernel⟩, by decide⟩
abbrev mX9_isTraffic : lk_M := (yX9_isTraffic, cX9_isTraffic, 2, (some .boolean))
theorem vX9_isTraffic : lk_cs mX9_isTraffic 2 := ⟨lk_in5 (List.mem_of_getElem? (i := 116) rfl) rfl, lk_in1 (List.mem_of_getElem? (i := 10) rfl) rfl, lk_in5 (List.mem_of_getElem? (i := 117) rfl) rfl, ⟨by decide +kernel, by decide +kernel, by decide +kernel⟩, by decide⟩
abbrev mX9_day : lk_M := (yX9_day, cX9_day, 3, (some .int))
theorem vX9_day : lk_cv mX9_day 2 := ⟨lk_in5 (List.mem_of_getElem? (i := 112) rfl) rfl, lk_in5 (List.mem_of_getElem? (i := 113) rfl) rfl, lk_in1 (List.mem_of_getElem? (i := 10) rfl) rfl, lk_in5 (List.mem_of_getElem? (i := 114) rfl) rfl, ⟨by decide +kernel, by decide +kernel, by decide +kernel⟩, by decide⟩
abbrev mX9_dry : lk_M := (yX9_dry, cX9_dry, 5, (some .int))
theorem vX9_dry : lk_cv mX9_dry 3 := ⟨lk_in5 (List.mem_of_getElem? (i := 128) rfl) rfl, lk_in5 (List.mem_of_getElem? (i := 129) rfl) rfl, lk_in1 (List.mem_of_getElem? (i := 10) rfl) rfl, lk_in5 (List.mem_of_getElem? (i := 130) rfl) rfl, ⟨by decide +kernel, by decide +kernel, by decide +kernel⟩, by decide⟩
abbrev mX9_summit : lk_M := (yX9_summit, cX9_summit, 5, (some .int))
theorem vX9_summit : lk_cv mX9_summit 3 := ⟨lk_in5 (List.mem_of_getElem? (i := 137) rfl) rfl, lk_inS (List.mem_of_getElem? (i := 53) rfl) rfl, lk_in1 (List.mem_of_getElem? (i := 10) rfl) rfl, lk_in5 (List.mem_of_getElem? (i := 138) rfl) rfl, ⟨by decide +kernel, by decide +kernel, by decide +kernel⟩, by decide⟩
abbrev mX9_pond : lk_M := (yX9_pond, cX9_pond, 8, (some .int))
theorem vX9_pond : lk_cv mX9_pond 3 := ⟨lk_in5 (List.mem_of_getElem? (i := 132) rfl) rfl, lk_in5 (List.mem_of_getElem? (i := 133) rfl) rfl, lk_in1 (List.mem_of_getElem? (i := 10) rfl) rfl, lk_in5 (List.mem_of_getElem? (i := 134) rfl) rfl, ⟨by decide +kernel, by decide +kernel, by decide +kernel⟩, by decide⟩
abbrev mX9_water : lk_M := (yX9_water, cX9_water, 3, (some .int))
theorem vX9_water : lk_cv mX9_water 0 := ⟨lk_in5 (List.mem_of_getElem? (i := 140) rfl) rfl, lk_in5 (List.mem_of_getElem? (i := 141) rfl) rfl, lk_in1 (List.mem_of_getElem? (i := 10) rfl) rfl, lk_in5 (List.mem_of_getElem? (i := 142) rfl) rfl, ⟨by decide +kernel, by decide +kernel, by decide +kernel⟩, by decide⟩
abbrev mX9_levels : lk_M := (yX9_levels, cX9_levels, 7, (some .int))
theorem vX9_levels : lk_cv mX9_levels 1 := ⟨lk_in5 (List.mem_of_getElem? (i := 144) rfl) rfl, lk_in5 (List.mem_of_getElem? (i := 145) rfl) rfl, lk_in1 (List.mem_of_getElem? (i := 10) rfl) rfl, lk_in5 (List.mem_of_getElem? (i := 146) rfl) rfl, ⟨by decide +kernel, by decide +kernel, by decide +kernel⟩, by decide⟩
abbrev mX9_tally : lk_M := (yX9_tally, cX9_tally, 6, (some .int))
theorem vX9_tally : lk_cv mX9_tally 2 := ⟨lk_in5 (List.mem_of_getElem? (i := 148) rfl) rfl, lk_in5 (List.mem_of_getElem? (i := 149) rfl) rfl, lk_in1 (List.mem_of_getElem? (i := 10) rfl) rfl, lk_in5 (List.mem_of_getElem? (i := 150) rfl) rfl, ⟨by decide +kernel, by decide +kernel, by decide +kernel⟩, by decide⟩
abbrev mX9_isBeyond : lk_M := (yX9_isBeyond, cX9_isBeyond, 6, (some .boolean))
theorem vX9_isBeyond : lk_cs mX9_isBeyond 2 := ⟨lk_in5 (List.mem_of_getElem? (i := 156) rfl) rfl, lk_in1 (List.mem_of_getElem? (i := 10) rfl) rfl, lk_in5 (List.mem_of_getElem? (i := 157) rfl) rfl, ⟨by decide +kernel, by decide +kernel, by decide +kernel⟩, by decide⟩
abbrev mX9_pays : lk_M := (yX9_pays, cX9_pays, 9, (some .int))
theorem vX9_pays : lk_cv mX9_pays 2 := ⟨lk_in5 (List.mem_of_getElem? (i := 152) rfl) rfl, lk_in5 (List.mem_of_getElem? (i := 153) rfl) rfl, lk_in1 (List.mem_of_getElem? (i := 10) rfl) rfl, lk_in5 (List.mem_of_getElem? (i := 154) rfl) rfl, ⟨by decide +kernel, by decide +kernel, by decide +kernel⟩, by decide⟩
abbrev mX9_account : lk_M := (yX9_account, cX9_account, 1, (some .long))
theorem vX9_account : lk_cv mX9_account 0 := ⟨lk_in5 (List.mem_of_getElem? (i := 161) rfl) rfl, lk_in5 (List.mem_of_getElem? (i := 162) rfl) rfl, lk_in1 (List.mem_of_getElem? (i := 10) rfl) rfl, lk_in5 (List.mem_of_getElem? (i := 163) rfl) rfl, ⟨by decide +kernel, by decide +kernel, by decide +kernel⟩, by decide⟩
abbrev mX9_image : lk_M := (yX9_image, cX9_image, 1, (some .int))
theorem vX9_image : lk_cv mX9_image 0 := ⟨lk_in5 (List.mem_of_getElem? (i := 165) rfl) rfl, lk_in5 (List.mem_of_getElem? (i := 166) rfl) rfl, lk_in1 (List.mem_of_getElem? (i := 10) rfl) rfl, lk_in5 (List.mem_of_getElem? (i := 167) rfl) rfl, ⟨by decide +kernel, by decide +kernel, by decide +kernel⟩, by decide⟩
abbrev mX9_undo : lk_M := (yX9_undo, cX9_undo, 1, (some .int))
theorem vX9_undo : lk_cv mX9_undo 0 := ⟨lk_in5 (List.mem_of_getElem? (i := 169) rfl) rfl, lk_in5 (List.mem_of_getElem? (i := 170) rfl) rfl, lk_in1 (List.mem_of_getElem? (i := 10) rfl) rfl, lk_in5 (List.mem_of_getElem? (i := 171) rfl) rfl, ⟨by decide +kernel, by decide +kernel, by decide +kernel⟩, by decide⟩
abbrev mX9_count : lk_M := (yX9_count, cX9_count, 4, (some .int))
theorem vX9_count : lk_cv mX9_count 1 := ⟨lk_in5 (List.mem_of_getElem? (i := 173) rfl) rfl, lk_in5 (List.mem_of_getElem? (i := 174) rfl) rfl, lk_in1 (List.mem_of_getElem? (i := 10) rfl) rfl, lk_in5 (List.mem_of_getElem? (i := 175) rfl) rfl, ⟨by decide +kernel, by decide +kernel, by decide +kernel⟩, by decide⟩
abbrev mJ9_max_7cf53 : lk_M := (yJ9_max_7cf53, cJ9_max_7cf53, 2, (some .int))
theorem vJ9_max_7cf53 : lk_cs mJ9_max_7cf53 2 := ⟨lk_in3 (List.mem_of_getElem? (i := 204) rfl) rfl, lk_in1 (List.mem_of_getElem? (i := 12) rfl) rfl, lk_in3 (List.mem_of_getElem? (i := 205) rfl) rfl, ⟨by decide +kernel, by decide +kernel, by decide +kernel⟩, by decide⟩
abbrev mJ9_min_7cf53 : lk_M := (yJ9_min_7cf53, cJ9_min_7cf53, 2, (some .int))
theorem vJ9_min_7cf53 : lk_cs mJ9_min_7cf53 2 := ⟨lk_in3 (List.mem_of_getElem? (i := 103) rfl) rfl, lk_in1 (List.mem_of_getElem? (i := 12) rfl) rfl, lk_in3 (List.mem_of_getElem? (i := 104) rfl) rfl, ⟨by decide +kernel, by decide +kernel, by decide +kernel⟩, by decide⟩
theorem fX5_11 : Cond.fieldLink RX5 11 "LockStaircase$Tally" "often" "[I" ∈ lk_AW := lk_in1 (List.mem_of_getElem? (i := 34) rfl) rfl
theorem fX1_9 : Cond.fieldLink RX1 9 "LockStaircase$Cause" "known" "Z" ∈ lk_AW := lk_in1 (List.mem_of_getElem? (i := 46) rfl) rfl
theorem fX0_95 : Cond.fieldLink RX0 95 "LockStaircase$Cause" "known" "Z" ∈ lk_AW := lk_in1 (List.mem_of_getElem? (i := 47) rfl) rfl
theorem fX1_15 : Cond.fieldLink RX1 15 "LockStaircase$Cause" "lock" "I" ∈ lk_AW := lk_in1 (List.mem_of_getElem? (i := 48) rfl) rfl
theorem fX0_99 : Cond.fieldLink RX0 99 "LockStaircase$Cause" "lock" "I" ∈ lk_AW := lk_in1 (List.mem_of_getElem? (i := 49) rfl) rfl
theorem fX8_315 : Cond.fieldLink RX8 315 "LockStaircase$Cause" "lock" "I" ∈ lk_AW := lk_in1 (List.mem_of_getElem? (i := 50) rfl) rfl
theorem fX1_19 : Cond.fieldLink RX1 19 "LockStaircase$Cause" "step" "I" ∈ lk_AW := lk_in1 (List.mem_of_getElem? (i := 51) rfl) rfl
theorem fX0_102 : Cond.fieldLink RX0 102 "LockStaircase$Cause" "step" "I" ∈ lk_AW := lk_in1 (List.mem_of_getElem? (i := 52) rfl) rfl
theorem fX1_22 : Cond.fieldLink RX1 22 "LockStaircase$Cause" "reach" "I" ∈ lk_AW := lk_in1 (List.mem_of_getElem? (i := 53) rfl) rfl
theorem fX0_105 : Cond.fieldLink RX0 105 "LockStaircase$Cause" "reach" "I" ∈ lk_AW := lk_in1 (List.mem_of_getElem? (i := 54) rfl) rfl
theorem fX1_25 : Cond.fieldLink RX1 25 "LockStaircase$Cause" "side" "I" ∈ lk_AW := lk_in1 (List.mem_of_getElem? (i := 55) rfl) rfl
theorem fX0_108 : Cond.fieldLink RX0 108 "LockStaircase$Cause" "side" "I" ∈ lk_AW := lk_in1 (List.mem_of_getElem? (i := 56) rfl) rfl
theorem fX0_51 : Cond.fieldLink RX0 51 "LockStaircase$Canal" "locks" "I" ∈ lk_AW := lk_in1 (List.mem_of_getElem? (i := 68) rfl) rfl
theorem fX8_72 : Cond.fieldLink RX8 72 "LockStaircase$Canal" "locks" "I" ∈ lk_AW := lk_in1 (List.mem_of_getElem? (i := 69) rfl) rfl
theorem fX0_55 : Cond.fieldLink RX0 55 "LockStaircase$Canal" "inflow" "I" ∈ lk_AW := lk_in1 (List.mem_of_getElem? (i := 70) rfl) rfl
theorem fX8_127 : Cond.fieldLink RX8 127 "LockStaircase$Canal" "inflow" "I" ∈ lk_AW := lk_in1 (List.mem_of_getElem? (i := 71) rfl) rfl
theorem fX0_9 : Cond.fieldLink RX0 9 "LockStaircase$Canal" "lockful" "[I" ∈ lk_AW := lk_in1 (List.mem_of_getElem? (i := 72) rfl) rfl
theorem fX8_94 : Cond.fieldLink RX8 94 "LockStaircase$Canal" "lockful" "[I" ∈ lk_AW := lk_in1 (List.mem_of_getElem? (i := 73) rfl) rfl
theorem fX0_15 : Cond.fieldLink RX0 15 "LockStaircase$Canal" "ponds" "[I" ∈ lk_AW := lk_in1 (List.mem_of_getElem? (i := 74) rfl) rfl
theorem fX8_98 : Cond.fieldLink RX8 98 "LockStaircase$Canal" "ponds" "[I" ∈ lk_AW := lk_in1 (List.mem_of_getElem? (i := 75) rfl) rfl
theorem fX0_18 : Cond.fieldLink RX0 18 "LockStaircase$Canal" "held" "[I" ∈ lk_AW := lk_in1 (List.mem_of_getElem? (i := 76) rfl) rfl
theorem fX0_21 : Cond.fieldLink RX0 21 "LockStaircase$Canal" "full" "[Z" ∈ lk_AW := lk_in1 (List.mem_of_getElem? (i := 77) rfl) rfl
theorem fX4_32 : Cond.fieldLink RX4 32 "LockStaircase$Canal" "full" "[Z" ∈ lk_AW := lk_in1 (List.mem_of_getElem? (i := 78) rfl) rfl
theorem fX8_288 : Cond.fieldLink RX8 288 "LockStaircase$Canal" "full" "[Z" ∈ lk_AW := lk_in1 (List.mem_of_getElem? (i := 79) rfl) rfl
theorem fX0_25 : Cond.fieldLink RX0 25 "LockStaircase$Canal" "level" "[I" ∈ lk_AW := lk_in1 (List.mem_of_getElem? (i := 80) rfl) rfl
theorem fX8_107 : Cond.fieldLink RX8 107 "LockStaircase$Canal" "level" "[I" ∈ lk_AW := lk_in1 (List.mem_of_getElem? (i := 81) rfl) rfl
theorem fX0_28 : Cond.fieldLink RX0 28 "LockStaircase$Canal" "least" "[I" ∈ lk_AW := lk_in1 (List.mem_of_getElem? (i := 82) rfl) rfl
theorem fX8_110 : Cond.fieldLink RX8 110 "LockStaircase$Canal" "least" "[I" ∈ lk_AW := lk_in1 (List.mem_of_getElem? (i := 83) rfl) rfl
theorem fX0_31 : Cond.fieldLink RX0 31 "LockStaircase$Canal" "most" "[I" ∈ lk_AW := lk_in1 (List.mem_of_getElem? (i := 84) rfl) rfl
theorem fX8_113 : Cond.fieldLink RX8 113 "LockStaircase$Canal" "most" "[I" ∈ lk_AW := lk_in1 (List.mem_of_getElem? (i := 85) rfl) rfl
theorem fX0_34 : Cond.fieldLink RX0 34 "LockStaircase$Canal" "loss" "[I" ∈ lk_AW := lk_in1 (List.mem_of_getElem? (i := 86) rfl) rfl
theorem fX0_40 : Cond.fieldLink RX0 40 "LockStaircase$Canal" "tally" "LLockStaircase$Tally;" ∈ lk_AW := lk_in1 (List.mem_of_getElem? (i := 87) rfl) rfl
theorem fX8_328 : Cond.fieldLink RX8 328 "LockStaircase$Canal" "tally" "LLockStaircase$Tally;" ∈ lk_AW := lk_in1 (List.mem_of_getElem? (i := 88) rfl) rfl
theorem fX0_47 : Cond.fieldLink RX0 47 "LockStaircase$Canal" "cause" "LLockStaircase$Cause;" ∈ lk_AW := lk_in1 (List.mem_of_getElem? (i := 89) rfl) rfl
theorem fX8_216 : Cond.fieldLink RX8 216 "LockStaircase$Canal" "cause" "LLockStaircase$Cause;" ∈ lk_AW := lk_in1 (List.mem_of_getElem? (i := 90) rfl) rfl
theorem fX0_119 : Cond.fieldLink RX0 119 "LockStaircase$Canal" "barred" "Z" ∈ lk_AW := lk_in1 (List.mem_of_getElem? (i := 91) rfl) rfl
theorem fX8_311 : Cond.fieldLink RX8 311 "LockStaircase$Canal" "barred" "Z" ∈ lk_AW := lk_in1 (List.mem_of_getElem? (i := 92) rfl) rfl
theorem fX2_11 : Cond.fieldLink RX2 11 "LockStaircase$Fleet" "name" "[I" ∈ lk_AW := lk_in1 (List.mem_of_getElem? (i := 126) rfl) rfl
theorem fX2_15 : Cond.fieldLink RX2 15 "LockStaircase$Fleet" "size" "[I" ∈ lk_AW := lk_in1 (List.mem_of_getElem? (i := 127) rfl) rfl
theorem fX8_195 : Cond.fieldLink RX8 195 "LockStaircase$Fleet" "size" "[I" ∈ lk_AW := lk_in1 (List.mem_of_getElem? (i := 128) rfl) rfl
theorem fX2_18 : Cond.fieldLink RX2 18 "LockStaircase$Fleet" "rank" "[I" ∈ lk_AW := lk_in1 (List.mem_of_getElem? (i := 129) rfl) rfl
theorem fX2_21 : Cond.fieldLink RX2 21 "LockStaircase$Fleet" "up" "[Z" ∈ lk_AW := lk_in1 (List.mem_of_getElem? (i := 130) rfl) rfl
theorem fX3_25 : Cond.fieldLink RX3 25 "LockStaircase$Fleet" "up" "[Z" ∈ lk_AW := lk_in1 (List.mem_of_getElem? (i := 131) rfl) rfl
theorem fX8_182 : Cond.fieldLink RX8 182 "LockStaircase$Fleet" "up" "[Z" ∈ lk_AW := lk_in1 (List.mem_of_getElem? (i := 132) rfl) rfl
theorem fX2_25 : Cond.fieldLink RX2 25 "LockStaircase$Fleet" "reach" "[I" ∈ lk_AW := lk_in1 (List.mem_of_getElem? (i := 133) rfl) rfl
theorem fX3_22 : Cond.fieldLink RX3 22 "LockStaircase$Fleet" "reach" "[I" ∈ lk_AW := lk_in1 (List.mem_of_getElem? (i := 134) rfl) rfl
theorem fX8_187 : Cond.fieldLink RX8 187 "LockStaircase$Fleet" "reach" "[I" ∈ lk_AW := lk_in1 (List.mem_of_getElem? (i := 135) rfl) rfl
theorem fX2_28 : Cond.fieldLink RX2 28 "LockStaircase$Fleet" "count" "I" ∈ lk_AW := lk_in1 (List.mem_of_getElem? (i := 136) rfl) rfl
theorem fX8_76 : Cond.fieldLink RX8 76 "LockStaircase$Fleet" "count" "I" ∈ lk_AW := lk_in1 (List.mem_of_getElem? (i := 137) rfl) rfl
theorem fX3_21 : Cond.fieldLink RX3 21 "LockStaircase$Fleet" "count" "I" ∈ lk_AW := lk_in1 (List.mem_of_getElem? (i := 138) rfl) rfl
theorem fX6_9 : Cond.fieldLink RX6 9 "LockStaircase$Tape" "bytes" "[I" ∈ lk_AW := lk_in1 (List.mem_of_getElem? (i := 158) rfl) rfl
theorem fX6_13 : Cond.fieldLink RX6 13 "LockStaircase$Tape" "length" "I" ∈ lk_AW := lk_in1 (List.mem_of_getElem? (i := 159) rfl) rfl
theorem fX8_133 : Cond.fieldLink RX8 133 "LockStaircase$Tape" "length" "I" ∈ lk_AW := lk_in1 (List.mem_of_getElem? (i := 160) rfl) rfl
theorem fX6_17 : Cond.fieldLink RX6 17 "LockStaircase$Tape" "at" "I" ∈ lk_AW := lk_in1 (List.mem_of_getElem? (i := 161) rfl) rfl
theorem fX8_144 : Cond.fieldLink RX8 144 "LockStaircase$Tape" "at" "I" ∈ lk_AW := lk_in1 (List.mem_of_getElem? (i := 162) rfl) rfl
theorem fX2_38 : Cond.fieldLink RX2 38 "LockStaircase$Tape" "name" "I" ∈ lk_AW := lk_in1 (List.mem_of_getElem? (i := 163) rfl) rfl
theorem fX6_24 : Cond.fieldLink RX6 24 "LockStaircase$Tape" "name" "I" ∈ lk_AW := lk_in1 (List.mem_of_getElem? (i := 164) rfl) rfl
theorem fX2_50 : Cond.fieldLink RX2 50 "LockStaircase$Tape" "up" "Z" ∈ lk_AW := lk_in1 (List.mem_of_getElem? (i := 165) rfl) rfl
theorem fX6_47 : Cond.fieldLink RX6 47 "LockStaircase$Tape" "up" "Z" ∈ lk_AW := lk_in1 (List.mem_of_getElem? (i := 166) rfl) rfl
theorem fX2_46 : Cond.fieldLink RX2 46 "LockStaircase$Tape" "size" "I" ∈ lk_AW := lk_in1 (List.mem_of_getElem? (i := 167) rfl) rfl
theorem fX6_35 : Cond.fieldLink RX6 35 "LockStaircase$Tape" "size" "I" ∈ lk_AW := lk_in1 (List.mem_of_getElem? (i := 168) rfl) rfl
theorem fX2_48 : Cond.fieldLink RX2 48 "LockStaircase$Tape" "rank" "I" ∈ lk_AW := lk_in1 (List.mem_of_getElem? (i := 169) rfl) rfl
theorem fX6_38 : Cond.fieldLink RX6 38 "LockStaircase$Tape" "rank" "I" ∈ lk_AW := lk_in1 (List.mem_of_getElem? (i := 170) rfl) rfl
theorem fX2_53 : Cond.fieldLink RX2 53 "LockStaircase$Tape" "reach" "I" ∈ lk_AW := lk_in1 (List.mem_of_getElem? (i := 171) rfl) rfl
theorem fX6_41 : Cond.fieldLink RX6 41 "LockStaircase$Tape" "reach" "I" ∈ lk_AW := lk_in1 (List.mem_of_getElem? (i := 172) rfl) rfl
theorem fX3_11 : Cond.fieldLink RX3 11 "LockStaircase$Line" "boats" "[I" ∈ lk_AW := lk_in1 (List.mem_of_getElem? (i := 196) rfl) rfl
theorem fX7_9 : Cond.fieldLink RX7 9 "LockStaircase$Line" "count" "I" ∈ lk_AW := lk_in1 (List.mem_of_getElem? (i := 197) rfl) rfl
theorem fX3_17 : Cond.fieldLink RX3 17 "LockStaircase$Line" "count" "I" ∈ lk_AW := lk_in1 (List.mem_of_getElem? (i := 198) rfl) rfl
theorem fX4_21 : Cond.fieldLink RX4 21 "LockStaircase$Line" "count" "I" ∈ lk_AW := lk_in1 (List.mem_of_getElem? (i := 199) rfl) rfl
theorem fX8_227 : Cond.fieldLink RX8 227 "LockStaircase$Line" "count" "I" ∈ lk_AW := lk_in1 (List.mem_of_getElem? (i := 200) rfl) rfl
theorem fX4_9 : Cond.fieldLink RX4 9 "LockStaircase$RuleRun" "fromBelow" "I" ∈ lk_AW := lk_in1 (List.mem_of_getElem? (i := 212) rfl) rfl
theorem fX8_295 : Cond.fieldLink RX8 295 "LockStaircase$RuleRun" "fromBelow" "I" ∈ lk_AW := lk_in1 (List.mem_of_getElem? (i := 213) rfl) rfl
theorem fX4_15 : Cond.fieldLink RX4 15 "LockStaircase$RuleRun" "fromAbove" "I" ∈ lk_AW := lk_in1 (List.mem_of_getElem? (i := 214) rfl) rfl
theorem fX8_302 : Cond.fieldLink RX8 302 "LockStaircase$RuleRun" "fromAbove" "I" ∈ lk_AW := lk_in1 (List.mem_of_getElem? (i := 215) rfl) rfl
theorem fX4_18 : Cond.fieldLink RX4 18 "LockStaircase$RuleRun" "spent" "I" ∈ lk_AW := lk_in1 (List.mem_of_getElem? (i := 216) rfl) rfl
theorem fX8_282 : Cond.fieldLink RX8 282 "LockStaircase$RuleRun" "spent" "I" ∈ lk_AW := lk_in1 (List.mem_of_getElem? (i := 217) rfl) rfl
theorem fX7_26 : Cond.fieldLink RX7 26 "LockStaircase$Weaving" "boats" "I" ∈ lk_AW := lk_in1 (List.mem_of_getElem? (i := 231) rfl) rfl
theorem fX8_245 : Cond.fieldLink RX8 245 "LockStaircase$Weaving" "boats" "I" ∈ lk_AW := lk_in1 (List.mem_of_getElem? (i := 232) rfl) rfl
theorem fX7_23 : Cond.fieldLink RX7 23 "LockStaircase$Weaving" "fromAbove" "I" ∈ lk_AW := lk_in1 (List.mem_of_getElem? (i := 233) rfl) rfl
theorem fX7_29 : Cond.fieldLink RX7 29 "LockStaircase$Weaving" "good" "I" ∈ lk_AW := lk_in1 (List.mem_of_getElem? (i := 234) rfl) rfl
theorem fX8_238 : Cond.fieldLink RX8 238 "LockStaircase$Weaving" "good" "I" ∈ lk_AW := lk_in1 (List.mem_of_getElem? (i := 235) rfl) rfl
theorem fX7_32 : Cond.fieldLink RX7 32 "LockStaircase$Weaving" "leastSpent" "I" ∈ lk_AW := lk_in1 (List.mem_of_getElem? (i := 236) rfl) rfl
theorem fX8_267 : Cond.fieldLink RX8 267 "LockStaircase$Weaving" "leastSpent" "I" ∈ lk_AW := lk_in1 (List.mem_of_getElem? (i := 237) rfl) rfl
theorem fX7_35 : Cond.fieldLink RX7 35 "LockStaircase$Weaving" "bestMask" "I" ∈ lk_AW := lk_in1 (List.mem_of_getElem? (i := 238) rfl) rfl
theorem fX8_273 : Cond.fieldLink RX8 273 "LockStaircase$Weaving" "bestMask" "I" ∈ lk_AW := lk_in1 (List.mem_of_getElem? (i := 239) rfl) rfl
theorem lX8_68 : Cond.methodLink RX8 68 yX0_reset ∈ lk_AW := lk_in2 (List.mem_of_getElem? (i := 11) rfl) rfl
theorem fX8_14 : Cond.fieldLink RX8 14 "LockStaircase" "canal" "LLockStaircase$Canal;" ∈ lk_AW := lk_in2 (List.mem_of_getElem? (i := 15) rfl) rfl
theorem fX8_21 : Cond.fieldLink RX8 21 "LockStaircase" "fleet" "LLockStaircase$Fleet;" ∈ lk_AW := lk_in2 (List.mem_of_getElem? (i := 16) rfl) rfl
theorem fX8_28 : Cond.fieldLink RX8 28 "LockStaircase" "tape" "LLockStaircase$Tape;" ∈ lk_AW := lk_in2 (List.mem_of_getElem? (i := 17) rfl) rfl
theorem fX8_347 : Cond.fieldLink RX8 347 "LockStaircase" "accountNow" "J" ∈ lk_AW := lk_in2 (List.mem_of_getElem? (i := 18) rfl) rfl
theorem fX8_32 : Cond.fieldLink RX8 32 "LockStaircase" "imageCanal" "LLockStaircase$Canal;" ∈ lk_AW := lk_in2 (List.mem_of_getElem? (i := 19) rfl) rfl
theorem fX8_35 : Cond.fieldLink RX8 35 "LockStaircase" "imageFleet" "LLockStaircase$Fleet;" ∈ lk_AW := lk_in2 (List.mem_of_getElem? (i := 20) rfl) rfl
theorem fX8_351 : Cond.fieldLink RX8 351 "LockStaircase" "imageAccount" "J" ∈ lk_AW := lk_in2 (List.mem_of_getElem? (i := 21) rfl) rfl
theorem fX8_354 : Cond.fieldLink RX8 354 "LockStaircase" "imageTaken" "Z" ∈ lk_AW := lk_in2 (List.mem_of_getElem? (i := 22) rfl) rfl
theorem fX8_38 : Cond.fieldLink RX8 38 "LockStaircase" "thought" "LLockStaircase$Canal;" ∈ lk_AW := lk_in2 (List.mem_of_getElem? (i := 23) rfl) rfl
theorem fX8_41 : Cond.fieldLink RX8 41 "LockStaircase" "thoughtFleet" "LLockStaircase$Fleet;" ∈ lk_AW := lk_in2 (List.mem_of_getElem? (i := 24) rfl) rfl
theorem fX8_47 : Cond.fieldLink RX8 47 "LockStaircase" "below" "LLockStaircase$Line;" ∈ lk_AW := lk_in2 (List.mem_of_getElem? (i := 25) rfl) rfl
theorem fX8_51 : Cond.fieldLink RX8 51 "LockStaircase" "above" "LLockStaircase$Line;" ∈ lk_AW := lk_in2 (List.mem_of_getElem? (i := 26) rfl) rfl
theorem fX8_57 : Cond.fieldLink RX8 57 "LockStaircase" "ruleRun" "LLockStaircase$RuleRun;" ∈ lk_AW := lk_in2 (List.mem_of_getElem? (i := 27) rfl) rfl
theorem fX8_64 : Cond.fieldLink RX8 64 "LockStaircase" "weaving" "LLockStaircase$Weaving;" ∈ lk_AW := lk_in2 (List.mem_of_getElem? (i := 28) rfl) rfl
theorem lL_13 : Cond.methodLink RL 13 yX8_locks ∈ lk_AW := lk_in2 (List.mem_of_getElem? (i := 58) rfl) rfl
theorem lL_18 : Cond.methodLink RL 18 yX8_lock ∈ lk_AW := lk_in2 (List.mem_of_getElem? (i := 62) rfl) rfl
theorem lX8_79 : Cond.methodLink RX8 79 yX0_hasLock ∈ lk_AW := lk_in2 (List.mem_of_getElem? (i := 66) rfl) rfl
theorem lX8_83 : Cond.methodLink RX8 83 yX8_isLockSetting ∈ lk_AW := lk_in2 (List.mem_of_getElem? (i := 70) rfl) rfl
theorem lX8_87 : Cond.methodLink RX8 87 yX0_isAtRest ∈ lk_AW := lk_in2 (List.mem_of_getElem? (i := 73) rfl) rfl
theorem lX8_90 : Cond.methodLink RX8 90 yX0_lockNumber ∈ lk_AW := lk_in2 (List.mem_of_getElem? (i := 77) rfl) rfl
theorem lX0_72 : Cond.methodLink RX0 72 yX0_share ∈ lk_AW := lk_in2 (List.mem_of_getElem? (i := 81) rfl) rfl
theorem lL_23 : Cond.methodLink RL 23 yX8_ofLock ∈ lk_AW := lk_in2 (List.mem_of_getElem? (i := 85) rfl) rfl
theorem lL_28 : Cond.methodLink RL 28 yX8_reach ∈ lk_AW := lk_in2 (List.mem_of_getElem? (i := 89) rfl) rfl
theorem lX8_101 : Cond.methodLink RX8 101 yX0_hasReach ∈ lk_AW := lk_in2 (List.mem_of_getElem? (i := 93) rfl) rfl
theorem lX8_104 : Cond.methodLink RX8 104 yX8_isReachSetting ∈ lk_AW := lk_in2 (List.mem_of_getElem? (i := 97) rfl) rfl
theorem lX8_116 : Cond.methodLink RX8 116 yX0_reachNumber ∈ lk_AW := lk_in2 (List.mem_of_getElem? (i := 100) rfl) rfl
theorem lX8_119 : Cond.methodLink RX8 119 yX0_setReach ∈ lk_AW := lk_in2 (List.mem_of_getElem? (i := 104) rfl) rfl
theorem lL_32 : Cond.methodLink RL 32 yX8_ofReach ∈ lk_AW := lk_in2 (List.mem_of_getElem? (i := 108) rfl) rfl
theorem lX8_123 : Cond.methodLink RX8 123 yX2_countIn ∈ lk_AW := lk_in2 (List.mem_of_getElem? (i := 112) rfl) rfl
theorem lL_36 : Cond.methodLink RL 36 yX8_feeds ∈ lk_AW := lk_in2 (List.mem_of_getElem? (i := 116) rfl) rfl
theorem lL_40 : Cond.methodLink RL 40 yX8_feed ∈ lk_AW := lk_in2 (List.mem_of_getElem? (i := 120) rfl) rfl
theorem lX8_130 : Cond.methodLink RX8 130 yX6_append ∈ lk_AW := lk_in2 (List.mem_of_getElem? (i := 124) rfl) rfl
theorem lL_44 : Cond.methodLink RL 44 yX8_boats ∈ lk_AW := lk_in2 (List.mem_of_getElem? (i := 128) rfl) rfl
theorem lX8_136 : Cond.methodLink RX8 136 yX8_readBoats ∈ lk_AW := lk_in2 (List.mem_of_getElem? (i := 132) rfl) rfl
theorem lX8_140 : Cond.methodLink RX8 140 yX2_copyFrom ∈ lk_AW := lk_in2 (List.mem_of_getElem? (i := 136) rfl) rfl
theorem lX2_32 : Cond.methodLink RX2 32 arraycopyName ∈ lk_AW := lk_in2 (List.mem_of_getElem? (i := 140) rfl) rfl
theorem lX8_147 : Cond.methodLink RX8 147 yX6_readBoat ∈ lk_AW := lk_in2 (List.mem_of_getElem? (i := 143) rfl) rfl
theorem lX6_20 : Cond.methodLink RX6 20 yX6_readName ∈ lk_AW := lk_in2 (List.mem_of_getElem? (i := 147) rfl) rfl
theorem lX6_44 : Cond.methodLink RX6 44 yX6_current ∈ lk_AW := lk_in2 (List.mem_of_getElem? (i := 151) rfl) rfl
theorem lX6_27 : Cond.methodLink RX6 27 yX6_readWay ∈ lk_AW := lk_in2 (List.mem_of_getElem? (i := 155) rfl) rfl
theorem lX6_31 : Cond.methodLink RX6 31 yX6_readFigure ∈ lk_AW := lk_in2 (List.mem_of_getElem? (i := 159) rfl) rfl
theorem lX8_150 : Cond.methodLink RX8 150 yX2_put ∈ lk_AW := lk_in2 (List.mem_of_getElem? (i := 163) rfl) rfl
theorem lX2_42 : Cond.methodLink RX2 42 yX2_placeFor ∈ lk_AW := lk_in2 (List.mem_of_getElem? (i := 167) rfl) rfl
theorem lX2_55 : Cond.methodLink RX2 55 yX2_copyRow ∈ lk_AW := lk_in2 (List.mem_of_getElem? (i := 171) rfl) rfl
theorem lX8_154 : Cond.methodLink RX8 154 yX6_isAtEnd ∈ lk_AW := lk_in2 (List.mem_of_getElem? (i := 175) rfl) rfl
theorem lX8_158 : Cond.methodLink RX8 158 yX8_takeFleetInThought ∈ lk_AW := lk_in2 (List.mem_of_getElem? (i := 179) rfl) rfl
theorem lX8_161 : Cond.methodLink RX8 161 yX6_readComma ∈ lk_AW := lk_in2 (List.mem_of_getElem? (i := 183) rfl) rfl
theorem lL_49 : Cond.methodLink RL 49 yX8_boat ∈ lk_AW := lk_in2 (List.mem_of_getElem? (i := 187) rfl) rfl
theorem lX8_164 : Cond.methodLink RX8 164 yX2_has ∈ lk_AW := lk_in2 (List.mem_of_getElem? (i := 191) rfl) rfl
theorem lX8_167 : Cond.methodLink RX8 167 yX2_number ∈ lk_AW := lk_in2 (List.mem_of_getElem? (i := 195) rfl) rfl
theorem lX2_63 : Cond.methodLink RX2 63 yX2_letterCount ∈ lk_AW := lk_in2 (List.mem_of_getElem? (i := 199) rfl) rfl
theorem lX2_66 : Cond.methodLink RX2 66 yX2_letter ∈ lk_AW := lk_in2 (List.mem_of_getElem? (i := 203) rfl) rfl
theorem lX2_59 : Cond.methodLink RX2 59 yX2_has ∈ lk_AW := lk_in2 (List.mem_of_getElem? (i := 207) rfl) rfl
theorem lX8_170 : Cond.methodLink RX8 170 yX2_letter ∈ lk_AW := lk_in2 (List.mem_of_getElem? (i := 208) rfl) rfl
theorem lL_53 : Cond.methodLink RL 53 yX8_find ∈ lk_AW := lk_in2 (List.mem_of_getElem? (i := 209) rfl) rfl
theorem lX8_173 : Cond.methodLink RX8 173 yX6_readName ∈ lk_AW := lk_in2 (List.mem_of_getElem? (i := 213) rfl) rfl
theorem lX8_176 : Cond.methodLink RX8 176 yX2_numberOf ∈ lk_AW := lk_in2 (List.mem_of_getElem? (i := 214) rfl) rfl
theorem lL_57 : Cond.methodLink RL 57 yX8_leaves ∈ lk_AW := lk_in2 (List.mem_of_getElem? (i := 218) rfl) rfl
theorem lX8_179 : Cond.methodLink RX8 179 yX2_remove ∈ lk_AW := lk_in2 (List.mem_of_getElem? (i := 222) rfl) rfl
theorem lL_61 : Cond.methodLink RL 61 yX8_about ∈ lk_AW := lk_in2 (List.mem_of_getElem? (i := 226) rfl) rfl
theorem lL_65 : Cond.methodLink RL 65 yX8_pass ∈ lk_AW := lk_in2 (List.mem_of_getElem? (i := 230) rfl) rfl
theorem kX8_186 : Cond.constant RX8 186 (-2000000) ∈ lk_AW := lk_in2 (List.mem_of_getElem? (i := 234) rfl) rfl
theorem lX8_190 : Cond.methodLink RX8 190 yX0_lockFrom ∈ lk_AW := lk_in2 (List.mem_of_getElem? (i := 235) rfl) rfl
theorem kX8_194 : Cond.constant RX8 194 (-2000001) ∈ lk_AW := lk_in2 (List.mem_of_getElem? (i := 238) rfl) rfl
theorem lX8_198 : Cond.methodLink RX8 198 yX0_passage ∈ lk_AW := lk_in2 (List.mem_of_getElem? (i := 239) rfl) rfl
theorem lX0_68 : Cond.methodLink RX0 68 yX0_hasLock ∈ lk_AW := lk_in3 (List.mem_of_getElem? (i := 3) rfl) rfl
theorem kX0_76 : Cond.constant RX0 76 (-2000002) ∈ lk_AW := lk_in3 (List.mem_of_getElem? (i := 4) rfl) rfl
theorem lX0_77 : Cond.methodLink RX0 77 yX0_empties ∈ lk_AW := lk_in3 (List.mem_of_getElem? (i := 5) rfl) rfl
theorem lX0_91 : Cond.methodLink RX0 91 yX0_isBarred ∈ lk_AW := lk_in3 (List.mem_of_getElem? (i := 9) rfl) rfl
theorem lX0_80 : Cond.methodLink RX0 80 yX0_fills ∈ lk_AW := lk_in3 (List.mem_of_getElem? (i := 13) rfl) rfl
theorem lX0_83 : Cond.methodLink RX0 83 yX0_swaps ∈ lk_AW := lk_in3 (List.mem_of_getElem? (i := 17) rfl) rfl
theorem lX0_87 : Cond.methodLink RX0 87 yX5_add ∈ lk_AW := lk_in3 (List.mem_of_getElem? (i := 21) rfl) rfl
theorem kX8_202 : Cond.constant RX8 202 (-2000002) ∈ lk_AW := lk_in3 (List.mem_of_getElem? (i := 25) rfl) rfl
theorem lX8_203 : Cond.methodLink RX8 203 yX2_moveOn ∈ lk_AW := lk_in3 (List.mem_of_getElem? (i := 26) rfl) rfl
theorem lL_69 : Cond.methodLink RL 69 yX8_through ∈ lk_AW := lk_in3 (List.mem_of_getElem? (i := 30) rfl) rfl
theorem lX8_207 : Cond.methodLink RX8 207 yX0_travel ∈ lk_AW := lk_in3 (List.mem_of_getElem? (i := 34) rfl) rfl
theorem lX0_111 : Cond.methodLink RX0 111 yX0_lockFrom ∈ lk_AW := lk_in3 (List.mem_of_getElem? (i := 38) rfl) rfl
theorem lX0_115 : Cond.methodLink RX0 115 yX0_passage ∈ lk_AW := lk_in3 (List.mem_of_getElem? (i := 39) rfl) rfl
theorem lL_73 : Cond.methodLink RL 73 yX8_costs ∈ lk_AW := lk_in3 (List.mem_of_getElem? (i := 40) rfl) rfl
theorem lX8_210 : Cond.methodLink RX8 210 yX0_copyFrom ∈ lk_AW := lk_in3 (List.mem_of_getElem? (i := 44) rfl) rfl
theorem lX0_58 : Cond.methodLink RX0 58 arraycopyName ∈ lk_AW := lk_in3 (List.mem_of_getElem? (i := 48) rfl) rfl
theorem lX0_64 : Cond.methodLink RX0 64 yX5_copyFrom ∈ lk_AW := lk_in3 (List.mem_of_getElem? (i := 49) rfl) rfl
theorem lX5_15 : Cond.methodLink RX5 15 arraycopyName ∈ lk_AW := lk_in3 (List.mem_of_getElem? (i := 53) rfl) rfl
theorem lX8_213 : Cond.methodLink RX8 213 yX0_summitWater ∈ lk_AW := lk_in3 (List.mem_of_getElem? (i := 54) rfl) rfl
theorem lL_77 : Cond.methodLink RL 77 yX8_why ∈ lk_AW := lk_in3 (List.mem_of_getElem? (i := 58) rfl) rfl
theorem lX8_220 : Cond.methodLink RX8 220 yX1_number ∈ lk_AW := lk_in3 (List.mem_of_getElem? (i := 62) rfl) rfl
theorem lL_81 : Cond.methodLink RL 81 yX8_queue ∈ lk_AW := lk_in3 (List.mem_of_getElem? (i := 66) rfl) rfl
theorem lX8_224 : Cond.methodLink RX8 224 yX8_lineUp ∈ lk_AW := lk_in3 (List.mem_of_getElem? (i := 70) rfl) rfl
theorem lX8_231 : Cond.methodLink RX8 231 yX3_gather ∈ lk_AW := lk_in3 (List.mem_of_getElem? (i := 74) rfl) rfl
theorem lX3_29 : Cond.methodLink RX3 29 yX3_join ∈ lk_AW := lk_in3 (List.mem_of_getElem? (i := 78) rfl) rfl
theorem lX3_33 : Cond.methodLink RX3 33 yX2_rankOf ∈ lk_AW := lk_in3 (List.mem_of_getElem? (i := 82) rfl) rfl
theorem lX8_228 : Cond.methodLink RX8 228 yX3_boatAt ∈ lk_AW := lk_in3 (List.mem_of_getElem? (i := 86) rfl) rfl
theorem lL_85 : Cond.methodLink RL 85 yX8_orders ∈ lk_AW := lk_in3 (List.mem_of_getElem? (i := 90) rfl) rfl
theorem lX8_235 : Cond.methodLink RX8 235 yX8_weaveOrders ∈ lk_AW := lk_in3 (List.mem_of_getElem? (i := 94) rfl) rfl
theorem lX8_241 : Cond.methodLink RX8 241 yX7_begin ∈ lk_AW := lk_in3 (List.mem_of_getElem? (i := 98) rfl) rfl
theorem lX7_17 : Cond.methodLink RX7 17 yJ9_min_7cf53 ∈ lk_AW := lk_in3 (List.mem_of_getElem? (i := 102) rfl) rfl
theorem lX8_248 : Cond.methodLink RX8 248 yX7_isOrder ∈ lk_AW := lk_in3 (List.mem_of_getElem? (i := 105) rfl) rfl
theorem lX7_38 : Cond.methodLink RX7 38 yJ6_bitCount_0f7a4 ∈ lk_AW := lk_in3 (List.mem_of_getElem? (i := 109) rfl) rfl
theorem kJ6_265 : Cond.constant RJ6 265 (1431655765) ∈ lk_AW := lk_in3 (List.mem_of_getElem? (i := 112) rfl) rfl
theorem kJ6_266 : Cond.constant RJ6 266 (858993459) ∈ lk_AW := lk_in3 (List.mem_of_getElem? (i := 113) rfl) rfl
theorem kJ6_267 : Cond.constant RJ6 267 (252645135) ∈ lk_AW := lk_in3 (List.mem_of_getElem? (i := 114) rfl) rfl
theorem lX8_251 : Cond.methodLink RX8 251 yX0_copyLockFrom ∈ lk_AW := lk_in3 (List.mem_of_getElem? (i := 115) rfl) rfl
theorem lX8_255 : Cond.methodLink RX8 255 yX8_spentByOrder ∈ lk_AW := lk_in3 (List.mem_of_getElem? (i := 119) rfl) rfl
theorem lX8_261 : Cond.methodLink RX8 261 yX7_isFromBelow ∈ lk_AW := lk_in3 (List.mem_of_getElem? (i := 123) rfl) rfl
theorem lX8_264 : Cond.methodLink RX8 264 yX2_sizeOf ∈ lk_AW := lk_in3 (List.mem_of_getElem? (i := 127) rfl) rfl
theorem lX8_258 : Cond.methodLink RX8 258 yX7_weigh ∈ lk_AW := lk_in3 (List.mem_of_getElem? (i := 131) rfl) rfl
theorem kX7_44 : Cond.constant RX7 44 (-2000002) ∈ lk_AW := lk_in3 (List.mem_of_getElem? (i := 135) rfl) rfl
theorem lL_89 : Cond.methodLink RL 89 yX8_best ∈ lk_AW := lk_in3 (List.mem_of_getElem? (i := 136) rfl) rfl
theorem lX8_270 : Cond.methodLink RX8 270 yX8_boatOfBest ∈ lk_AW := lk_in3 (List.mem_of_getElem? (i := 140) rfl) rfl
theorem lL_93 : Cond.methodLink RL 93 yX8_ruled ∈ lk_AW := lk_in3 (List.mem_of_getElem? (i := 144) rfl) rfl
theorem lX8_276 : Cond.methodLink RX8 276 yX8_isRule ∈ lk_AW := lk_in3 (List.mem_of_getElem? (i := 148) rfl) rfl
theorem lX8_279 : Cond.methodLink RX8 279 yX8_runInThought ∈ lk_AW := lk_in3 (List.mem_of_getElem? (i := 151) rfl) rfl
theorem lX8_291 : Cond.methodLink RX8 291 yX4_go ∈ lk_AW := lk_in3 (List.mem_of_getElem? (i := 155) rfl) rfl
theorem lX4_26 : Cond.methodLink RX4 26 yX0_hasLock ∈ lk_AW := lk_in3 (List.mem_of_getElem? (i := 159) rfl) rfl
theorem lX4_36 : Cond.methodLink RX4 36 yX4_isFromBelowNext ∈ lk_AW := lk_in3 (List.mem_of_getElem? (i := 160) rfl) rfl
theorem lX4_40 : Cond.methodLink RX4 40 yX3_boatAt ∈ lk_AW := lk_in3 (List.mem_of_getElem? (i := 164) rfl) rfl
theorem lX4_54 : Cond.methodLink RX4 54 yX4_isAhead ∈ lk_AW := lk_in3 (List.mem_of_getElem? (i := 165) rfl) rfl
theorem lX4_58 : Cond.methodLink RX4 58 yX2_rankOf ∈ lk_AW := lk_in3 (List.mem_of_getElem? (i := 168) rfl) rfl
theorem lX4_44 : Cond.methodLink RX4 44 yX2_sizeOf ∈ lk_AW := lk_in3 (List.mem_of_getElem? (i := 169) rfl) rfl
theorem lX4_49 : Cond.methodLink RX4 49 yX0_passage ∈ lk_AW := lk_in3 (List.mem_of_getElem? (i := 170) rfl) rfl
theorem kX4_53 : Cond.constant RX4 53 (-2000002) ∈ lk_AW := lk_in3 (List.mem_of_getElem? (i := 171) rfl) rfl
theorem lX8_285 : Cond.methodLink RX8 285 yX4_done ∈ lk_AW := lk_in3 (List.mem_of_getElem? (i := 172) rfl) rfl
theorem lL_97 : Cond.methodLink RL 97 yX8_run ∈ lk_AW := lk_in3 (List.mem_of_getElem? (i := 176) rfl) rfl
theorem lX8_298 : Cond.methodLink RX8 298 yX8_moveOnFirst ∈ lk_AW := lk_in3 (List.mem_of_getElem? (i := 180) rfl) rfl
theorem lL_101 : Cond.methodLink RL 101 yX8_keeper ∈ lk_AW := lk_in3 (List.mem_of_getElem? (i := 184) rfl) rfl
theorem lL_105 : Cond.methodLink RL 105 yX8_day ∈ lk_AW := lk_in3 (List.mem_of_getElem? (i := 188) rfl) rfl
theorem lX8_305 : Cond.methodLink RX8 305 yX8_isTraffic ∈ lk_AW := lk_in3 (List.mem_of_getElem? (i := 192) rfl) rfl
theorem lX8_308 : Cond.methodLink RX8 308 yX0_wholeDay ∈ lk_AW := lk_in3 (List.mem_of_getElem? (i := 195) rfl) rfl
theorem lX0_122 : Cond.methodLink RX0 122 yX0_loseAndGain ∈ lk_AW := lk_in3 (List.mem_of_getElem? (i := 199) rfl) rfl
theorem lX0_128 : Cond.methodLink RX0 128 yJ9_max_7cf53 ∈ lk_AW := lk_in3 (List.mem_of_getElem? (i := 203) rfl) rfl
theorem lX0_134 : Cond.methodLink RX0 134 yJ9_min_7cf53 ∈ lk_AW := lk_in3 (List.mem_of_getElem? (i := 206) rfl) rfl
theorem lX0_125 : Cond.methodLink RX0 125 yX0_travel ∈ lk_AW := lk_in3 (List.mem_of_getElem? (i := 207) rfl) rfl
theorem lL_109 : Cond.methodLink RL 109 yX8_dry ∈ lk_AW := lk_in3 (List.mem_of_getElem? (i := 208) rfl) rfl
theorem lL_113 : Cond.methodLink RL 113 yX8_pond ∈ lk_AW := lk_in3 (List.mem_of_getElem? (i := 212) rfl) rfl
theorem lX8_318 : Cond.methodLink RX8 318 yX8_summitInThought ∈ lk_AW := lk_in3 (List.mem_of_getElem? (i := 216) rfl) rfl
theorem lL_117 : Cond.methodLink RL 117 yX8_water ∈ lk_AW := lk_in3 (List.mem_of_getElem? (i := 220) rfl) rfl
theorem lX8_322 : Cond.methodLink RX8 322 yX0_allWater ∈ lk_AW := lk_in3 (List.mem_of_getElem? (i := 224) rfl) rfl
theorem lL_121 : Cond.methodLink RL 121 yX8_levels ∈ lk_AW := lk_in3 (List.mem_of_getElem? (i := 228) rfl) rfl
theorem lX8_325 : Cond.methodLink RX8 325 yX0_leastLevelOver ∈ lk_AW := lk_in3 (List.mem_of_getElem? (i := 232) rfl) rfl
theorem lL_125 : Cond.methodLink RL 125 yX8_tally ∈ lk_AW := lk_in3 (List.mem_of_getElem? (i := 236) rfl) rfl
theorem lX8_332 : Cond.methodLink RX8 332 yX5_upTo ∈ lk_AW := lk_in4 (List.mem_of_getElem? (i := 0) rfl) rfl
theorem lX8_337 : Cond.methodLink RX8 337 yX5_unlike ∈ lk_AW := lk_in4 (List.mem_of_getElem? (i := 4) rfl) rfl
theorem lX8_340 : Cond.methodLink RX8 340 yX5_row ∈ lk_AW := lk_in4 (List.mem_of_getElem? (i := 8) rfl) rfl
theorem kX5_21 : Cond.constant RX5 21 (-2000001) ∈ lk_AW := lk_in4 (List.mem_of_getElem? (i := 12) rfl) rfl
theorem lL_131 : Cond.methodLink RL 131 yX8_pays ∈ lk_AW := lk_in4 (List.mem_of_getElem? (i := 13) rfl) rfl
theorem kX8_343 : Cond.constantLong RX8 343 (-1) ∈ lk_AW := lk_in4 (List.mem_of_getElem? (i := 17) rfl) rfl
theorem kX8_345 : Cond.constantLong RX8 345 (-9223372036854775808) ∈ lk_AW := lk_in4 (List.mem_of_getElem? (i := 18) rfl) rfl
theorem lL_136 : Cond.methodLink RL 136 yX8_account ∈ lk_AW := lk_in4 (List.mem_of_getElem? (i := 19) rfl) rfl
theorem lL_141 : Cond.methodLink RL 141 yX8_image ∈ lk_AW := lk_in4 (List.mem_of_getElem? (i := 23) rfl) rfl
theorem lL_145 : Cond.methodLink RL 145 yX8_undo ∈ lk_AW := lk_in4 (List.mem_of_getElem? (i := 27) rfl) rfl
theorem lL_149 : Cond.methodLink RL 149 yX8_count ∈ lk_AW := lk_in4 (List.mem_of_getElem? (i := 31) rfl) rfl
theorem lX8_357 : Cond.methodLink RX8 357 yX0_fullLocks ∈ lk_AW := lk_in4 (List.mem_of_getElem? (i := 35) rfl) rfl
theorem lX9_42 : Cond.methodLink RX9 42 yX9_begins ∈ lk_AW := lk_in4 (List.mem_of_getElem? (i := 45) rfl) rfl
theorem fX9_9 : Cond.fieldLink RX9 9 "LockStaircaseModel" "now" "[I" ∈ lk_AW := lk_in4 (List.mem_of_getElem? (i := 49) rfl) rfl
theorem fX9_15 : Cond.fieldLink RX9 15 "LockStaircaseModel" "old" "[I" ∈ lk_AW := lk_in4 (List.mem_of_getElem? (i := 50) rfl) rfl
theorem fX9_18 : Cond.fieldLink RX9 18 "LockStaircaseModel" "ahead" "[I" ∈ lk_AW := lk_in4 (List.mem_of_getElem? (i := 51) rfl) rfl
theorem fX9_241 : Cond.fieldLink RX9 241 "LockStaircaseModel" "imaged" "Z" ∈ lk_AW := lk_in4 (List.mem_of_getElem? (i := 52) rfl) rfl
theorem fX9_237 : Cond.fieldLink RX9 237 "LockStaircaseModel" "account" "J" ∈ lk_AW := lk_in4 (List.mem_of_getElem? (i := 53) rfl) rfl
theorem fX9_244 : Cond.fieldLink RX9 244 "LockStaircaseModel" "oldAccount" "J" ∈ lk_AW := lk_in4 (List.mem_of_getElem? (i := 54) rfl) rfl
theorem fX9_137 : Cond.fieldLink RX9 137 "LockStaircaseModel" "spent" "I" ∈ lk_AW := lk_in4 (List.mem_of_getElem? (i := 55) rfl) rfl
theorem fX9_118 : Cond.fieldLink RX9 118 "LockStaircaseModel" "step" "I" ∈ lk_AW := lk_in4 (List.mem_of_getElem? (i := 56) rfl) rfl
theorem fX9_121 : Cond.fieldLink RX9 121 "LockStaircaseModel" "at" "I" ∈ lk_AW := lk_in4 (List.mem_of_getElem? (i := 57) rfl) rfl
theorem fX9_124 : Cond.fieldLink RX9 124 "LockStaircaseModel" "side" "I" ∈ lk_AW := lk_in4 (List.mem_of_getElem? (i := 58) rfl) rfl
theorem fX9_144 : Cond.fieldLink RX9 144 "LockStaircaseModel" "wasBarred" "Z" ∈ lk_AW := lk_in4 (List.mem_of_getElem? (i := 59) rfl) rfl
theorem fX9_21 : Cond.fieldLink RX9 21 "LockStaircaseModel" "cause" "[I" ∈ lk_AW := lk_in4 (List.mem_of_getElem? (i := 60) rfl) rfl
theorem fX9_65 : Cond.fieldLink RX9 65 "LockStaircaseModel" "taped" "I" ∈ lk_AW := lk_in4 (List.mem_of_getElem? (i := 61) rfl) rfl
theorem fX9_24 : Cond.fieldLink RX9 24 "LockStaircaseModel" "tape" "[I" ∈ lk_AW := lk_in4 (List.mem_of_getElem? (i := 62) rfl) rfl
theorem fX9_72 : Cond.fieldLink RX9 72 "LockStaircaseModel" "place" "I" ∈ lk_AW := lk_in4 (List.mem_of_getElem? (i := 63) rfl) rfl
theorem fX9_69 : Cond.fieldLink RX9 69 "LockStaircaseModel" "fault" "I" ∈ lk_AW := lk_in4 (List.mem_of_getElem? (i := 64) rfl) rfl
theorem fX9_27 : Cond.fieldLink RX9 27 "LockStaircaseModel" "read" "[I" ∈ lk_AW := lk_in4 (List.mem_of_getElem? (i := 65) rfl) rfl
theorem fX9_82 : Cond.fieldLink RX9 82 "LockStaircaseModel" "told" "I" ∈ lk_AW := lk_in4 (List.mem_of_getElem? (i := 66) rfl) rfl
theorem fX9_168 : Cond.fieldLink RX9 168 "LockStaircaseModel" "below" "I" ∈ lk_AW := lk_in4 (List.mem_of_getElem? (i := 67) rfl) rfl
theorem fX9_171 : Cond.fieldLink RX9 171 "LockStaircaseModel" "above" "I" ∈ lk_AW := lk_in4 (List.mem_of_getElem? (i := 68) rfl) rfl
theorem fX9_30 : Cond.fieldLink RX9 30 "LockStaircaseModel" "ones" "[I" ∈ lk_AW := lk_in4 (List.mem_of_getElem? (i := 69) rfl) rfl
theorem fX9_33 : Cond.fieldLink RX9 33 "LockStaircaseModel" "others" "[I" ∈ lk_AW := lk_in4 (List.mem_of_getElem? (i := 70) rfl) rfl
theorem fX9_196 : Cond.fieldLink RX9 196 "LockStaircaseModel" "done" "I" ∈ lk_AW := lk_in4 (List.mem_of_getElem? (i := 71) rfl) rfl
theorem fX9_199 : Cond.fieldLink RX9 199 "LockStaircaseModel" "sum" "I" ∈ lk_AW := lk_in4 (List.mem_of_getElem? (i := 72) rfl) rfl
theorem fX9_209 : Cond.fieldLink RX9 209 "LockStaircaseModel" "ended" "I" ∈ lk_AW := lk_in4 (List.mem_of_getElem? (i := 73) rfl) rfl
theorem fX9_182 : Cond.fieldLink RX9 182 "LockStaircaseModel" "good" "I" ∈ lk_AW := lk_in4 (List.mem_of_getElem? (i := 74) rfl) rfl
theorem fX9_185 : Cond.fieldLink RX9 185 "LockStaircaseModel" "best" "I" ∈ lk_AW := lk_in4 (List.mem_of_getElem? (i := 75) rfl) rfl
theorem fX9_36 : Cond.fieldLink RX9 36 "LockStaircaseModel" "row" "[I" ∈ lk_AW := lk_in4 (List.mem_of_getElem? (i := 76) rfl) rfl
theorem fX9_39 : Cond.fieldLink RX9 39 "LockStaircaseModel" "bestRow" "[I" ∈ lk_AW := lk_in4 (List.mem_of_getElem? (i := 77) rfl) rfl
theorem lL_17 : Cond.methodLink RL 17 yX9_locks ∈ lk_AW := lk_in4 (List.mem_of_getElem? (i := 137) rfl) rfl
theorem lX9_46 : Cond.methodLink RX9 46 yX9_within ∈ lk_AW := lk_in4 (List.mem_of_getElem? (i := 141) rfl) rfl
theorem lL_22 : Cond.methodLink RL 22 yX9_lock ∈ lk_AW := lk_in4 (List.mem_of_getElem? (i := 144) rfl) rfl
theorem lX9_50 : Cond.methodLink RX9 50 yX9_isLock ∈ lk_AW := lk_in4 (List.mem_of_getElem? (i := 148) rfl) rfl
theorem lX9_54 : Cond.methodLink RX9 54 yX9_becomes ∈ lk_AW := lk_in4 (List.mem_of_getElem? (i := 152) rfl) rfl
theorem lL_27 : Cond.methodLink RL 27 yX9_ofLock ∈ lk_AW := lk_in4 (List.mem_of_getElem? (i := 156) rfl) rfl
theorem lX9_58 : Cond.methodLink RX9 58 yX9_share ∈ lk_AW := lk_in4 (List.mem_of_getElem? (i := 160) rfl) rfl
theorem lL_31 : Cond.methodLink RL 31 yX9_reach ∈ lk_AW := lk_in4 (List.mem_of_getElem? (i := 164) rfl) rfl
theorem lX9_62 : Cond.methodLink RX9 62 yX9_isReach ∈ lk_AW := lk_in4 (List.mem_of_getElem? (i := 168) rfl) rfl
theorem lL_35 : Cond.methodLink RL 35 yX9_ofReach ∈ lk_AW := lk_in4 (List.mem_of_getElem? (i := 172) rfl) rfl
theorem lL_39 : Cond.methodLink RL 39 yX9_feeds ∈ lk_AW := lk_in4 (List.mem_of_getElem? (i := 176) rfl) rfl
theorem lL_43 : Cond.methodLink RL 43 yX9_feed ∈ lk_AW := lk_in4 (List.mem_of_getElem? (i := 180) rfl) rfl
theorem lL_48 : Cond.methodLink RL 48 yX9_boats ∈ lk_AW := lk_in4 (List.mem_of_getElem? (i := 184) rfl) rfl
theorem lX9_102 : Cond.methodLink RX9 102 yX9_readsBoat ∈ lk_AW := lk_in4 (List.mem_of_getElem? (i := 188) rfl) rfl
theorem lX9_85 : Cond.methodLink RX9 85 yX9_name ∈ lk_AW := lk_in4 (List.mem_of_getElem? (i := 192) rfl) rfl
theorem lX9_75 : Cond.methodLink RX9 75 yX9_isFrom ∈ lk_AW := lk_in4 (List.mem_of_getElem? (i := 196) rfl) rfl
theorem lX9_79 : Cond.methodLink RX9 79 yX9_wrong ∈ lk_AW := lk_in4 (List.mem_of_getElem? (i := 200) rfl) rfl
theorem lX9_89 : Cond.methodLink RX9 89 yX9_figure ∈ lk_AW := lk_in4 (List.mem_of_getElem? (i := 204) rfl) rfl
theorem lX9_105 : Cond.methodLink RX9 105 yX9_pours ∈ lk_AW := lk_in4 (List.mem_of_getElem? (i := 208) rfl) rfl
theorem lX9_109 : Cond.methodLink RX9 109 yX9_comes ∈ lk_AW := lk_in4 (List.mem_of_getElem? (i := 211) rfl) rfl
theorem lX9_92 : Cond.methodLink RX9 92 yX9_where ∈ lk_AW := lk_in4 (List.mem_of_getElem? (i := 215) rfl) rfl
theorem lX9_95 : Cond.methodLink RX9 95 yX9_isThere ∈ lk_AW := lk_in4 (List.mem_of_getElem? (i := 219) rfl) rfl
theorem lX9_98 : Cond.methodLink RX9 98 yX9_shifts ∈ lk_AW := lk_in4 (List.mem_of_getElem? (i := 223) rfl) rfl
theorem lL_52 : Cond.methodLink RL 52 yX9_boat ∈ lk_AW := lk_in4 (List.mem_of_getElem? (i := 227) rfl) rfl
theorem lX9_112 : Cond.methodLink RX9 112 yX9_isBoat ∈ lk_AW := lk_in4 (List.mem_of_getElem? (i := 231) rfl) rfl
theorem lX9_115 : Cond.methodLink RX9 115 yX9_letter ∈ lk_AW := lk_in4 (List.mem_of_getElem? (i := 235) rfl) rfl
theorem lL_56 : Cond.methodLink RL 56 yX9_find ∈ lk_AW := lk_in4 (List.mem_of_getElem? (i := 238) rfl) rfl
theorem lL_60 : Cond.methodLink RL 60 yX9_leaves ∈ lk_AW := lk_in5 (List.mem_of_getElem? (i := 2) rfl) rfl
theorem lL_64 : Cond.methodLink RL 64 yX9_about ∈ lk_AW := lk_in5 (List.mem_of_getElem? (i := 6) rfl) rfl
theorem lL_68 : Cond.methodLink RL 68 yX9_pass ∈ lk_AW := lk_in5 (List.mem_of_getElem? (i := 10) rfl) rfl
theorem kX9_157 : Cond.constant RX9 157 (-2000000) ∈ lk_AW := lk_in5 (List.mem_of_getElem? (i := 14) rfl) rfl
theorem lX9_151 : Cond.methodLink RX9 151 yX9_lockOf ∈ lk_AW := lk_in5 (List.mem_of_getElem? (i := 15) rfl) rfl
theorem lX9_148 : Cond.methodLink RX9 148 yX9_isUp ∈ lk_AW := lk_in5 (List.mem_of_getElem? (i := 19) rfl) rfl
theorem kX9_158 : Cond.constant RX9 158 (-2000001) ∈ lk_AW := lk_in5 (List.mem_of_getElem? (i := 23) rfl) rfl
theorem lX9_159 : Cond.methodLink RX9 159 yX9_boatGoes ∈ lk_AW := lk_in5 (List.mem_of_getElem? (i := 24) rfl) rfl
theorem lX9_154 : Cond.methodLink RX9 154 yX9_goesTruly ∈ lk_AW := lk_in5 (List.mem_of_getElem? (i := 28) rfl) rfl
theorem lX9_140 : Cond.methodLink RX9 140 yX9_goes ∈ lk_AW := lk_in5 (List.mem_of_getElem? (i := 32) rfl) rfl
theorem lX9_131 : Cond.methodLink RX9 131 yX9_empties ∈ lk_AW := lk_in5 (List.mem_of_getElem? (i := 36) rfl) rfl
theorem lX9_127 : Cond.methodLink RX9 127 yX9_flows ∈ lk_AW := lk_in5 (List.mem_of_getElem? (i := 40) rfl) rfl
theorem lX9_134 : Cond.methodLink RX9 134 yX9_fills ∈ lk_AW := lk_in5 (List.mem_of_getElem? (i := 44) rfl) rfl
theorem kX9_163 : Cond.constant RX9 163 (-2000002) ∈ lk_AW := lk_in5 (List.mem_of_getElem? (i := 48) rfl) rfl
theorem lL_72 : Cond.methodLink RL 72 yX9_through ∈ lk_AW := lk_in5 (List.mem_of_getElem? (i := 49) rfl) rfl
theorem lL_76 : Cond.methodLink RL 76 yX9_costs ∈ lk_AW := lk_in5 (List.mem_of_getElem? (i := 53) rfl) rfl
theorem lL_80 : Cond.methodLink RL 80 yX9_why ∈ lk_AW := lk_in5 (List.mem_of_getElem? (i := 57) rfl) rfl
theorem lL_84 : Cond.methodLink RL 84 yX9_queue ∈ lk_AW := lk_in5 (List.mem_of_getElem? (i := 61) rfl) rfl
theorem lX9_174 : Cond.methodLink RX9 174 yX9_queuesOf ∈ lk_AW := lk_in5 (List.mem_of_getElem? (i := 65) rfl) rfl
theorem lX9_164 : Cond.methodLink RX9 164 yX9_queues ∈ lk_AW := lk_in5 (List.mem_of_getElem? (i := 69) rfl) rfl
theorem lL_88 : Cond.methodLink RL 88 yX9_orders ∈ lk_AW := lk_in5 (List.mem_of_getElem? (i := 73) rfl) rfl
theorem lX9_193 : Cond.methodLink RX9 193 yX9_weavesAll ∈ lk_AW := lk_in5 (List.mem_of_getElem? (i := 77) rfl) rfl
theorem kX9_192 : Cond.constant RX9 192 (1000000) ∈ lk_AW := lk_in5 (List.mem_of_getElem? (i := 81) rfl) rfl
theorem lX9_188 : Cond.methodLink RX9 188 yX9_weaves ∈ lk_AW := lk_in5 (List.mem_of_getElem? (i := 82) rfl) rfl
theorem lX9_177 : Cond.methodLink RX9 177 yJ9_min_7cf53 ∈ lk_AW := lk_in5 (List.mem_of_getElem? (i := 86) rfl) rfl
theorem lL_92 : Cond.methodLink RL 92 yX9_best ∈ lk_AW := lk_in5 (List.mem_of_getElem? (i := 87) rfl) rfl
theorem lL_96 : Cond.methodLink RL 96 yX9_ruled ∈ lk_AW := lk_in5 (List.mem_of_getElem? (i := 91) rfl) rfl
theorem lX9_205 : Cond.methodLink RX9 205 yX9_runs ∈ lk_AW := lk_in5 (List.mem_of_getElem? (i := 95) rfl) rfl
theorem lX9_202 : Cond.methodLink RX9 202 yX9_isFromBelow ∈ lk_AW := lk_in5 (List.mem_of_getElem? (i := 99) rfl) rfl
theorem lL_100 : Cond.methodLink RL 100 yX9_run ∈ lk_AW := lk_in5 (List.mem_of_getElem? (i := 103) rfl) rfl
theorem lL_104 : Cond.methodLink RL 104 yX9_keeper ∈ lk_AW := lk_in5 (List.mem_of_getElem? (i := 107) rfl) rfl
theorem lL_108 : Cond.methodLink RL 108 yX9_day ∈ lk_AW := lk_in5 (List.mem_of_getElem? (i := 111) rfl) rfl
theorem lX9_219 : Cond.methodLink RX9 219 yX9_isTraffic ∈ lk_AW := lk_in5 (List.mem_of_getElem? (i := 115) rfl) rfl
theorem lX9_222 : Cond.methodLink RX9 222 yX9_dayGoes ∈ lk_AW := lk_in5 (List.mem_of_getElem? (i := 118) rfl) rfl
theorem lX9_212 : Cond.methodLink RX9 212 yJ9_max_7cf53 ∈ lk_AW := lk_in5 (List.mem_of_getElem? (i := 122) rfl) rfl
theorem lX9_215 : Cond.methodLink RX9 215 yX9_crosses ∈ lk_AW := lk_in5 (List.mem_of_getElem? (i := 123) rfl) rfl
theorem lL_112 : Cond.methodLink RL 112 yX9_dry ∈ lk_AW := lk_in5 (List.mem_of_getElem? (i := 127) rfl) rfl
theorem lL_116 : Cond.methodLink RL 116 yX9_pond ∈ lk_AW := lk_in5 (List.mem_of_getElem? (i := 131) rfl) rfl
theorem lX9_225 : Cond.methodLink RX9 225 yX9_summit ∈ lk_AW := lk_in5 (List.mem_of_getElem? (i := 135) rfl) rfl
theorem lL_120 : Cond.methodLink RL 120 yX9_water ∈ lk_AW := lk_in5 (List.mem_of_getElem? (i := 139) rfl) rfl
theorem lL_124 : Cond.methodLink RL 124 yX9_levels ∈ lk_AW := lk_in5 (List.mem_of_getElem? (i := 143) rfl) rfl
theorem lL_128 : Cond.methodLink RL 128 yX9_tally ∈ lk_AW := lk_in5 (List.mem_of_getElem? (i := 147) rfl) rfl
theorem lL_135 : Cond.methodLink RL 135 yX9_pays ∈ lk_AW := lk_in5 (List.mem_of_getElem? (i := 151) rfl) rfl
theorem lX9_233 : Cond.methodLink RX9 233 yX9_isBeyond ∈ lk_AW := lk_in5 (List.mem_of_getElem? (i := 155) rfl) rfl
theorem kX9_229 : Cond.constantLong RX9 229 (-1) ∈ lk_AW := lk_in5 (List.mem_of_getElem? (i := 158) rfl) rfl
theorem kX9_231 : Cond.constantLong RX9 231 (-9223372036854775808) ∈ lk_AW := lk_in5 (List.mem_of_getElem? (i := 159) rfl) rfl
theorem lL_140 : Cond.methodLink RL 140 yX9_account ∈ lk_AW := lk_in5 (List.mem_of_getElem? (i := 160) rfl) rfl
theorem lL_144 : Cond.methodLink RL 144 yX9_image ∈ lk_AW := lk_in5 (List.mem_of_getElem? (i := 164) rfl) rfl
theorem lL_148 : Cond.methodLink RL 148 yX9_undo ∈ lk_AW := lk_in5 (List.mem_of_getElem? (i := 168) rfl) rfl
theorem lL_152 : Cond.methodLink RL 152 yX9_count ∈ lk_AW := lk_in5 (List.mem_of_getElem? (i := 172) rfl) rfl
theorem kL_129 : Cond.constantLong RL 129 (4294967295) ∈ lk_AW := lk_in5 (List.mem_of_getElem? (i := 176) rfl) rfl
theorem wNatC : Cond.native arraycopyName ∈ lk_AW := lk_in2 (List.mem_of_getElem? (i := 142) rfl) rfl
theorem wStaC : Cond.static arraycopyName ∈ lk_AW := lk_in2 (List.mem_of_getElem? (i := 141) rfl) rfl
theorem wIniC : Cond.initialized "java/lang/System" ∈ lk_AW := lk_in1 (List.mem_of_getElem? (i := 11) rfl) rfl
end
section
theorem dX0_init_0 : decode cX0_init 0 = .ok (.aload_n 0, 1) := by decide +kernel
theorem dX0_init_1 : decode cX0_init 1 = .ok (.invokespecial 3, 3) := by decide +kernel
theorem dX0_init_4 : decode cX0_init 4 = .ok (.aload_n 0, 1) := by decide +kernel
theorem dX0_init_5 : decode cX0_init 5 = .ok (.bipush 6, 2) := by decide +kernel
theorem dX0_init_7 : decode cX0_init 7 = .ok (.newarray .int, 2) := by decide +kernel
theorem dX0_init_9 : decode cX0_init 9 = .ok (.putfield 9, 3) := by decide +kernel
theorem dX0_init_12 : decode cX0_init 12 = .ok (.aload_n 0, 1) := by decide +kernel
theorem dX0_init_13 : decode cX0_init 13 = .ok (.bipush 6, 2) := by decide +kernel
theorem dX0_init_15 : decode cX0_init 15 = .ok (.newarray .int, 2) := by decide +kernel
theorem dX0_init_17 : decode cX0_init 17 = .ok (.putfield 15, 3) := by decide +kernel
theorem dX0_init_20 : decode cX0_init 20 = .ok (.aload_n 0, 1) := by decide +kernel
theorem dX0_init_21 : decode cX0_init 21 = .ok (.bipush 6, 2) := by decide +kernel
theorem dX0_init_23 : decode cX0_init 23 = .ok (.newarray .int, 2) := by decide +kernel
theorem dX0_init_25 : decode cX0_init 25 = .ok (.putfield 18, 3) := by decide +kernel
theorem dX0_init_28 : decode cX0_init 28 = .ok (.aload_n 0, 1) := by decide +kernel
theorem dX0_init_29 : decode cX0_init 29 = .ok (.bipush 6, 2) := by decide +kernel
theorem dX0_init_31 : decode cX0_init 31 = .ok (.newarray .boolean, 2) := by decide +kernel
theorem dX0_init_33 : decode cX0_init 33 = .ok (.putfield 21, 3) := by decide +kernel
theorem dX0_init_36 : decode cX0_init 36 = .ok (.aload_n 0, 1) := by decide +kernel
theorem dX0_init_37 : decode cX0_init 37 = .ok (.bipush 7, 2) := by decide +kernel
theorem dX0_init_39 : decode cX0_init 39 = .ok (.newarray .int, 2) := by decide +kernel
theorem dX0_init_41 : decode cX0_init 41 = .ok (.putfield 25, 3) := by decide +kernel
theorem dX0_init_44 : decode cX0_init 44 = .ok (.aload_n 0, 1) := by decide +kernel
theorem dX0_init_45 : decode cX0_init 45 = .ok (.bipush 7, 2) := by decide +kernel
theorem dX0_init_47 : decode cX0_init 47 = .ok (.newarray .int, 2) := by decide +kernel
theorem dX0_init_49 : decode cX0_init 49 = .ok (.putfield 28, 3) := by decide +kernel
theorem dX0_init_52 : decode cX0_init 52 = .ok (.aload_n 0, 1) := by decide +kernel
theorem dX0_init_53 : decode cX0_init 53 = .ok (.bipush 7, 2) := by decide +kernel
theorem dX0_init_55 : decode cX0_init 55 = .ok (.newarray .int, 2) := by decide +kernel
theorem dX0_init_57 : decode cX0_init 57 = .ok (.putfield 31, 3) := by decide +kernel
theorem dX0_init_60 : decode cX0_init 60 = .ok (.aload_n 0, 1) := by decide +kernel
theorem dX0_init_61 : decode cX0_init 61 = .ok (.bipush 7, 2) := by decide +kernel
theorem dX0_init_63 : decode cX0_init 63 = .ok (.newarray .int, 2) := by decide +kernel
theorem dX0_init_65 : decode cX0_init 65 = .ok (.putfield 34, 3) := by decide +kernel
theorem dX0_init_68 : decode cX0_init 68 = .ok (.aload_n 0, 1) := by decide +kernel
theorem dX0_init_69 : decode cX0_init 69 = .ok (.new 37, 3) := by decide +kernel
theorem dX0_init_72 : decode cX0_init 72 = .ok (.dup, 1) := by decide +kernel
theorem dX0_init_73 : decode cX0_init 73 = .ok (.invokespecial 39, 3) := by decide +kernel
theorem dX0_init_76 : decode cX0_init 76 = .ok (.putfield 40, 3) := by decide +kernel
theorem dX0_init_79 : decode cX0_init 79 = .ok (.aload_n 0, 1) := by decide +kernel
theorem dX0_init_80 : decode cX0_init 80 = .ok (.new 44, 3) := by decide +kernel
theorem dX0_init_83 : decode cX0_init 83 = .ok (.dup, 1) := by decide +kernel
theorem dX0_init_84 : decode cX0_init 84 = .ok (.invokespecial 46, 3) := by decide +kernel
theorem dX0_init_87 : decode cX0_init 87 = .ok (.putfield 47, 3) := by decide +kernel
theorem dX0_init_90 : decode cX0_init 90 = .ok (.return_, 1) := by decide +kernel
theorem dX0_reset_0 : decode cX0_reset 0 = .ok (.aload_n 0, 1) := by decide +kernel
theorem dX0_reset_1 : decode cX0_reset 1 = .ok (.iload_n 1, 1) := by decide +kernel
theorem dX0_reset_2 : decode cX0_reset 2 = .ok (.putfield 51, 3) := by decide +kernel
theorem dX0_reset_5 : decode cX0_reset 5 = .ok (.aload_n 0, 1) := by decide +kernel
theorem dX0_reset_6 : decode cX0_reset 6 = .ok (.iconst 0, 1) := by decide +kernel
theorem dX0_reset_7 : decode cX0_reset 7 = .ok (.putfield 55, 3) := by decide +kernel
theorem dX0_reset_10 : decode cX0_reset 10 = .ok (.iconst 0, 1) := by decide +kernel
theorem dX0_reset_11 : decode cX0_reset 11 = .ok (.istore_n 2, 1) := by decide +kernel
theorem dX0_reset_12 : decode cX0_reset 12 = .ok (.iload_n 2, 1) := by decide +kernel
theorem dX0_reset_13 : decode cX0_reset 13 = .ok (.bipush 6, 2) := by decide +kernel
theorem dX0_reset_15 : decode cX0_reset 15 = .ok (.if_icmp .ge 38, 3) := by decide +kernel
theorem dX0_reset_18 : decode cX0_reset 18 = .ok (.aload_n 0, 1) := by decide +kernel
theorem dX0_reset_19 : decode cX0_reset 19 = .ok (.getfield 9, 3) := by decide +kernel
theorem dX0_reset_22 : decode cX0_reset 22 = .ok (.iload_n 2, 1) := by decide +kernel
theorem dX0_reset_23 : decode cX0_reset 23 = .ok (.bipush 20, 2) := by decide +kernel
theorem dX0_reset_25 : decode cX0_reset 25 = .ok (.iastore, 1) := by decide +kernel
theorem dX0_reset_26 : decode cX0_reset 26 = .ok (.aload_n 0, 1) := by decide +kernel
theorem dX0_reset_27 : decode cX0_reset 27 = .ok (.getfield 15, 3) := by decide +kernel
theorem dX0_reset_30 : decode cX0_reset 30 = .ok (.iload_n 2, 1) := by decide +kernel
theorem dX0_reset_31 : decode cX0_reset 31 = .ok (.iconst 0, 1) := by decide +kernel
theorem dX0_reset_32 : decode cX0_reset 32 = .ok (.iastore, 1) := by decide +kernel
theorem dX0_reset_33 : decode cX0_reset 33 = .ok (.aload_n 0, 1) := by decide +kernel
theorem dX0_reset_34 : decode cX0_reset 34 = .ok (.getfield 18, 3) := by decide +kernel
theorem dX0_reset_37 : decode cX0_reset 37 = .ok (.iload_n 2, 1) := by decide +kernel
theorem dX0_reset_38 : decode cX0_reset 38 = .ok (.iconst 0, 1) := by decide +kernel
theorem dX0_reset_39 : decode cX0_reset 39 = .ok (.iastore, 1) := by decide +kernel
theorem dX0_reset_40 : decode cX0_reset 40 = .ok (.aload_n 0, 1) := by decide +kernel
theorem dX0_reset_41 : decode cX0_reset 41 = .ok (.getfield 21, 3) := by decide +kernel
theorem dX0_reset_44 : decode cX0_reset 44 = .ok (.iload_n 2, 1) := by decide +kernel
theorem dX0_reset_45 : decode cX0_reset 45 = .ok (.iconst 0, 1) := by decide +kernel
theorem dX0_reset_46 : decode cX0_reset 46 = .ok (.bastore, 1) := by decide +kernel
theorem dX0_reset_47 : decode cX0_reset 47 = .ok (.iinc 2 1, 3) := by decide +kernel
theorem dX0_reset_50 : decode cX0_reset 50 = .ok (.goto (-38), 3) := by decide +kernel
theorem dX0_reset_53 : decode cX0_reset 53 = .ok (.iconst 0, 1) := by decide +kernel
theorem dX0_reset_54 : decode cX0_reset 54 = .ok (.istore_n 2, 1) := by decide +kernel
theorem dX0_reset_55 : decode cX0_reset 55 = .ok (.iload_n 2, 1) := by decide +kernel
theorem dX0_reset_56 : decode cX0_reset 56 = .ok (.bipush 6, 2) := by decide +kernel
theorem dX0_reset_58 : decode cX0_reset 58 = .ok (.if_icmp .gt 41, 3) := by decide +kernel
theorem dX0_reset_61 : decode cX0_reset 61 = .ok (.aload_n 0, 1) := by decide +kernel
theorem dX0_reset_62 : decode cX0_reset 62 = .ok (.getfield 25, 3) := by decide +kernel
theorem dX0_reset_65 : decode cX0_reset 65 = .ok (.iload_n 2, 1) := by decide +kernel
theorem dX0_reset_66 : decode cX0_reset 66 = .ok (.sipush 500, 3) := by decide +kernel
theorem dX0_reset_69 : decode cX0_reset 69 = .ok (.iastore, 1) := by decide +kernel
theorem dX0_reset_70 : decode cX0_reset 70 = .ok (.aload_n 0, 1) := by decide +kernel
theorem dX0_reset_71 : decode cX0_reset 71 = .ok (.getfield 28, 3) := by decide +kernel
theorem dX0_reset_74 : decode cX0_reset 74 = .ok (.iload_n 2, 1) := by decide +kernel
theorem dX0_reset_75 : decode cX0_reset 75 = .ok (.iconst 0, 1) := by decide +kernel
theorem dX0_reset_76 : decode cX0_reset 76 = .ok (.iastore, 1) := by decide +kernel
theorem dX0_reset_77 : decode cX0_reset 77 = .ok (.aload_n 0, 1) := by decide +kernel
theorem dX0_reset_78 : decode cX0_reset 78 = .ok (.getfield 31, 3) := by decide +kernel
theorem dX0_reset_81 : decode cX0_reset 81 = .ok (.iload_n 2, 1) := by decide +kernel
theorem dX0_reset_82 : decode cX0_reset 82 = .ok (.sipush 9999, 3) := by decide +kernel
theorem dX0_reset_85 : decode cX0_reset 85 = .ok (.iastore, 1) := by decide +kernel
theorem dX0_reset_86 : decode cX0_reset 86 = .ok (.aload_n 0, 1) := by decide +kernel
theorem dX0_reset_87 : decode cX0_reset 87 = .ok (.getfield 34, 3) := by decide +kernel
theorem dX0_reset_90 : decode cX0_reset 90 = .ok (.iload_n 2, 1) := by decide +kernel
theorem dX0_reset_91 : decode cX0_reset 91 = .ok (.iconst 0, 1) := by decide +kernel
theorem dX0_reset_92 : decode cX0_reset 92 = .ok (.iastore, 1) := by decide +kernel
theorem dX0_reset_93 : decode cX0_reset 93 = .ok (.iinc 2 1, 3) := by decide +kernel
theorem dX0_reset_96 : decode cX0_reset 96 = .ok (.goto (-41), 3) := by decide +kernel
theorem dX0_reset_99 : decode cX0_reset 99 = .ok (.return_, 1) := by decide +kernel
theorem dX0_copyFrom_0 : decode cX0_copyFrom 0 = .ok (.aload_n 0, 1) := by decide +kernel
theorem dX0_copyFrom_1 : decode cX0_copyFrom 1 = .ok (.aload_n 1, 1) := by decide +kernel
theorem dX0_copyFrom_2 : decode cX0_copyFrom 2 = .ok (.getfield 51, 3) := by decide +kernel
theorem dX0_copyFrom_5 : decode cX0_copyFrom 5 = .ok (.putfield 51, 3) := by decide +kernel
theorem dX0_copyFrom_8 : decode cX0_copyFrom 8 = .ok (.aload_n 0, 1) := by decide +kernel
theorem dX0_copyFrom_9 : decode cX0_copyFrom 9 = .ok (.aload_n 1, 1) := by decide +kernel
theorem dX0_copyFrom_10 : decode cX0_copyFrom 10 = .ok (.getfield 55, 3) := by decide +kernel
theorem dX0_copyFrom_13 : decode cX0_copyFrom 13 = .ok (.putfield 55, 3) := by decide +kernel
theorem dX0_copyFrom_16 : decode cX0_copyFrom 16 = .ok (.aload_n 1, 1) := by decide +kernel
theorem dX0_copyFrom_17 : decode cX0_copyFrom 17 = .ok (.getfield 9, 3) := by decide +kernel
theorem dX0_copyFrom_20 : decode cX0_copyFrom 20 = .ok (.iconst 0, 1) := by decide +kernel
theorem dX0_copyFrom_21 : decode cX0_copyFrom 21 = .ok (.aload_n 0, 1) := by decide +kernel
theorem dX0_copyFrom_22 : decode cX0_copyFrom 22 = .ok (.getfield 9, 3) := by decide +kernel
theorem dX0_copyFrom_25 : decode cX0_copyFrom 25 = .ok (.iconst 0, 1) := by decide +kernel
theorem dX0_copyFrom_26 : decode cX0_copyFrom 26 = .ok (.bipush 6, 2) := by decide +kernel
theorem dX0_copyFrom_28 : decode cX0_copyFrom 28 = .ok (.invokestatic 58, 3) := by decide +kernel
theorem dX0_copyFrom_31 : decode cX0_copyFrom 31 = .ok (.aload_n 1, 1) := by decide +kernel
theorem dX0_copyFrom_32 : decode cX0_copyFrom 32 = .ok (.getfield 15, 3) := by decide +kernel
theorem dX0_copyFrom_35 : decode cX0_copyFrom 35 = .ok (.iconst 0, 1) := by decide +kernel
theorem dX0_copyFrom_36 : decode cX0_copyFrom 36 = .ok (.aload_n 0, 1) := by decide +kernel
theorem dX0_copyFrom_37 : decode cX0_copyFrom 37 = .ok (.getfield 15, 3) := by decide +kernel
theorem dX0_copyFrom_40 : decode cX0_copyFrom 40 = .ok (.iconst 0, 1) := by decide +kernel
theorem dX0_copyFrom_41 : decode cX0_copyFrom 41 = .ok (.bipush 6, 2) := by decide +kernel
theorem dX0_copyFrom_43 : decode cX0_copyFrom 43 = .ok (.invokestatic 58, 3) := by decide +kernel
theorem dX0_copyFrom_46 : decode cX0_copyFrom 46 = .ok (.aload_n 1, 1) := by decide +kernel
theorem dX0_copyFrom_47 : decode cX0_copyFrom 47 = .ok (.getfield 18, 3) := by decide +kernel
theorem dX0_copyFrom_50 : decode cX0_copyFrom 50 = .ok (.iconst 0, 1) := by decide +kernel
theorem dX0_copyFrom_51 : decode cX0_copyFrom 51 = .ok (.aload_n 0, 1) := by decide +kernel
theorem dX0_copyFrom_52 : decode cX0_copyFrom 52 = .ok (.getfield 18, 3) := by decide +kernel
theorem dX0_copyFrom_55 : decode cX0_copyFrom 55 = .ok (.iconst 0, 1) := by decide +kernel
theorem dX0_copyFrom_56 : decode cX0_copyFrom 56 = .ok (.bipush 6, 2) := by decide +kernel
theorem dX0_copyFrom_58 : decode cX0_copyFrom 58 = .ok (.invokestatic 58, 3) := by decide +kernel
theorem dX0_copyFrom_61 : decode cX0_copyFrom 61 = .ok (.aload_n 1, 1) := by decide +kernel
theorem dX0_copyFrom_62 : decode cX0_copyFrom 62 = .ok (.getfield 25, 3) := by decide +kernel
theorem dX0_copyFrom_65 : decode cX0_copyFrom 65 = .ok (.iconst 0, 1) := by decide +kernel
theorem dX0_copyFrom_66 : decode cX0_copyFrom 66 = .ok (.aload_n 0, 1) := by decide +kernel
theorem dX0_copyFrom_67 : decode cX0_copyFrom 67 = .ok (.getfield 25, 3) := by decide +kernel
theorem dX0_copyFrom_70 : decode cX0_copyFrom 70 = .ok (.iconst 0, 1) := by decide +kernel
theorem dX0_copyFrom_71 : decode cX0_copyFrom 71 = .ok (.bipush 7, 2) := by decide +kernel
theorem dX0_copyFrom_73 : decode cX0_copyFrom 73 = .ok (.invokestatic 58, 3) := by decide +kernel
theorem dX0_copyFrom_76 : decode cX0_copyFrom 76 = .ok (.aload_n 1, 1) := by decide +kernel
theorem dX0_copyFrom_77 : decode cX0_copyFrom 77 = .ok (.getfield 28, 3) := by decide +kernel
theorem dX0_copyFrom_80 : decode cX0_copyFrom 80 = .ok (.iconst 0, 1) := by decide +kernel
theorem dX0_copyFrom_81 : decode cX0_copyFrom 81 = .ok (.aload_n 0, 1) := by decide +kernel
theorem dX0_copyFrom_82 : decode cX0_copyFrom 82 = .ok (.getfield 28, 3) := by decide +kernel
theorem dX0_copyFrom_85 : decode cX0_copyFrom 85 = .ok (.iconst 0, 1) := by decide +kernel
theorem dX0_copyFrom_86 : decode cX0_copyFrom 86 = .ok (.bipush 7, 2) := by decide +kernel
theorem dX0_copyFrom_88 : decode cX0_copyFrom 88 = .ok (.invokestatic 58, 3) := by decide +kernel
theorem dX0_copyFrom_91 : decode cX0_copyFrom 91 = .ok (.aload_n 1, 1) := by decide +kernel
theorem dX0_copyFrom_92 : decode cX0_copyFrom 92 = .ok (.getfield 31, 3) := by decide +kernel
theorem dX0_copyFrom_95 : decode cX0_copyFrom 95 = .ok (.iconst 0, 1) := by decide +kernel
theorem dX0_copyFrom_96 : decode cX0_copyFrom 96 = .ok (.aload_n 0, 1) := by decide +kernel
theorem dX0_copyFrom_97 : decode cX0_copyFrom 97 = .ok (.getfield 31, 3) := by decide +kernel
theorem dX0_copyFrom_100 : decode cX0_copyFrom 100 = .ok (.iconst 0, 1) := by decide +kernel
theorem dX0_copyFrom_101 : decode cX0_copyFrom 101 = .ok (.bipush 7, 2) := by decide +kernel
theorem dX0_copyFrom_103 : decode cX0_copyFrom 103 = .ok (.invokestatic 58, 3) := by decide +kernel
theorem dX0_copyFrom_106 : decode cX0_copyFrom 106 = .ok (.aload_n 1, 1) := by decide +kernel
theorem dX0_copyFrom_107 : decode cX0_copyFrom 107 = .ok (.getfield 34, 3) := by decide +kernel
theorem dX0_copyFrom_110 : decode cX0_copyFrom 110 = .ok (.iconst 0, 1) := by decide +kernel
theorem dX0_copyFrom_111 : decode cX0_copyFrom 111 = .ok (.aload_n 0, 1) := by decide +kernel
theorem dX0_copyFrom_112 : decode cX0_copyFrom 112 = .ok (.getfield 34, 3) := by decide +kernel
theorem dX0_copyFrom_115 : decode cX0_copyFrom 115 = .ok (.iconst 0, 1) := by decide +kernel
theorem dX0_copyFrom_116 : decode cX0_copyFrom 116 = .ok (.bipush 7, 2) := by decide +kernel
theorem dX0_copyFrom_118 : decode cX0_copyFrom 118 = .ok (.invokestatic 58, 3) := by decide +kernel
theorem dX0_copyFrom_121 : decode cX0_copyFrom 121 = .ok (.iconst 0, 1) := by decide +kernel
theorem dX0_copyFrom_122 : decode cX0_copyFrom 122 = .ok (.istore_n 2, 1) := by decide +kernel
theorem dX0_copyFrom_123 : decode cX0_copyFrom 123 = .ok (.iload_n 2, 1) := by decide +kernel
theorem dX0_copyFrom_124 : decode cX0_copyFrom 124 = .ok (.bipush 6, 2) := by decide +kernel
theorem dX0_copyFrom_126 : decode cX0_copyFrom 126 = .ok (.if_icmp .ge 21, 3) := by decide +kernel
theorem dX0_copyFrom_129 : decode cX0_copyFrom 129 = .ok (.aload_n 0, 1) := by decide +kernel
theorem dX0_copyFrom_130 : decode cX0_copyFrom 130 = .ok (.getfield 21, 3) := by decide +kernel
theorem dX0_copyFrom_133 : decode cX0_copyFrom 133 = .ok (.iload_n 2, 1) := by decide +kernel
theorem dX0_copyFrom_134 : decode cX0_copyFrom 134 = .ok (.aload_n 1, 1) := by decide +kernel
theorem dX0_copyFrom_135 : decode cX0_copyFrom 135 = .ok (.getfield 21, 3) := by decide +kernel
theorem dX0_copyFrom_138 : decode cX0_copyFrom 138 = .ok (.iload_n 2, 1) := by decide +kernel
theorem dX0_copyFrom_139 : decode cX0_copyFrom 139 = .ok (.baload, 1) := by decide +kernel
theorem dX0_copyFrom_140 : decode cX0_copyFrom 140 = .ok (.bastore, 1) := by decide +kernel
theorem dX0_copyFrom_141 : decode cX0_copyFrom 141 = .ok (.iinc 2 1, 3) := by decide +kernel
theorem dX0_copyFrom_144 : decode cX0_copyFrom 144 = .ok (.goto (-21), 3) := by decide +kernel
theorem dX0_copyFrom_147 : decode cX0_copyFrom 147 = .ok (.aload_n 0, 1) := by decide +kernel
theorem dX0_copyFrom_148 : decode cX0_copyFrom 148 = .ok (.getfield 40, 3) := by decide +kernel
theorem dX0_copyFrom_151 : decode cX0_copyFrom 151 = .ok (.aload_n 1, 1) := by decide +kernel
theorem dX0_copyFrom_152 : decode cX0_copyFrom 152 = .ok (.getfield 40, 3) := by decide +kernel
theorem dX0_copyFrom_155 : decode cX0_copyFrom 155 = .ok (.invokevirtual 64, 3) := by decide +kernel
theorem dX0_copyFrom_158 : decode cX0_copyFrom 158 = .ok (.return_, 1) := by decide +kernel
theorem dX0_copyLockFrom_0 : decode cX0_copyLockFrom 0 = .ok (.aload_n 0, 1) := by decide +kernel
theorem dX0_copyLockFrom_1 : decode cX0_copyLockFrom 1 = .ok (.iload_n 2, 1) := by decide +kernel
theorem dX0_copyLockFrom_2 : decode cX0_copyLockFrom 2 = .ok (.invokevirtual 68, 3) := by decide +kernel
theorem dX0_copyLockFrom_5 : decode cX0_copyLockFrom 5 = .ok (.ifCond .ne 4, 3) := by decide +kernel
theorem dX0_copyLockFrom_8 : decode cX0_copyLockFrom 8 = .ok (.return_, 1) := by decide +kernel
theorem dX0_copyLockFrom_9 : decode cX0_copyLockFrom 9 = .ok (.aload_n 0, 1) := by decide +kernel
theorem dX0_copyLockFrom_10 : decode cX0_copyLockFrom 10 = .ok (.getfield 18, 3) := by decide +kernel
theorem dX0_copyLockFrom_13 : decode cX0_copyLockFrom 13 = .ok (.iload_n 2, 1) := by decide +kernel
theorem dX0_copyLockFrom_14 : decode cX0_copyLockFrom 14 = .ok (.aload_n 1, 1) := by decide +kernel
theorem dX0_copyLockFrom_15 : decode cX0_copyLockFrom 15 = .ok (.getfield 18, 3) := by decide +kernel
theorem dX0_copyLockFrom_18 : decode cX0_copyLockFrom 18 = .ok (.iload_n 2, 1) := by decide +kernel
theorem dX0_copyLockFrom_19 : decode cX0_copyLockFrom 19 = .ok (.iaload, 1) := by decide +kernel
theorem dX0_copyLockFrom_20 : decode cX0_copyLockFrom 20 = .ok (.iastore, 1) := by decide +kernel
theorem dX0_copyLockFrom_21 : decode cX0_copyLockFrom 21 = .ok (.aload_n 0, 1) := by decide +kernel
theorem dX0_copyLockFrom_22 : decode cX0_copyLockFrom 22 = .ok (.getfield 21, 3) := by decide +kernel
theorem dX0_copyLockFrom_25 : decode cX0_copyLockFrom 25 = .ok (.iload_n 2, 1) := by decide +kernel
theorem dX0_copyLockFrom_26 : decode cX0_copyLockFrom 26 = .ok (.aload_n 1, 1) := by decide +kernel
theorem dX0_copyLockFrom_27 : decode cX0_copyLockFrom 27 = .ok (.getfield 21, 3) := by decide +kernel
theorem dX0_copyLockFrom_30 : decode cX0_copyLockFrom 30 = .ok (.iload_n 2, 1) := by decide +kernel
theorem dX0_copyLockFrom_31 : decode cX0_copyLockFrom 31 = .ok (.baload, 1) := by decide +kernel
theorem dX0_copyLockFrom_32 : decode cX0_copyLockFrom 32 = .ok (.bastore, 1) := by decide +kernel
theorem dX0_copyLockFrom_33 : decode cX0_copyLockFrom 33 = .ok (.aload_n 0, 1) := by decide +kernel
theorem dX0_copyLockFrom_34 : decode cX0_copyLockFrom 34 = .ok (.getfield 25, 3) := by decide +kernel
theorem dX0_copyLockFrom_37 : decode cX0_copyLockFrom 37 = .ok (.iload_n 2, 1) := by decide +kernel
theorem dX0_copyLockFrom_38 : decode cX0_copyLockFrom 38 = .ok (.aload_n 1, 1) := by decide +kernel
theorem dX0_copyLockFrom_39 : decode cX0_copyLockFrom 39 = .ok (.getfield 25, 3) := by decide +kernel
theorem dX0_copyLockFrom_42 : decode cX0_copyLockFrom 42 = .ok (.iload_n 2, 1) := by decide +kernel
theorem dX0_copyLockFrom_43 : decode cX0_copyLockFrom 43 = .ok (.iaload, 1) := by decide +kernel
theorem dX0_copyLockFrom_44 : decode cX0_copyLockFrom 44 = .ok (.iastore, 1) := by decide +kernel
theorem dX0_copyLockFrom_45 : decode cX0_copyLockFrom 45 = .ok (.aload_n 0, 1) := by decide +kernel
theorem dX0_copyLockFrom_46 : decode cX0_copyLockFrom 46 = .ok (.getfield 25, 3) := by decide +kernel
theorem dX0_copyLockFrom_49 : decode cX0_copyLockFrom 49 = .ok (.iload_n 2, 1) := by decide +kernel
theorem dX0_copyLockFrom_50 : decode cX0_copyLockFrom 50 = .ok (.iconst 1, 1) := by decide +kernel
theorem dX0_copyLockFrom_51 : decode cX0_copyLockFrom 51 = .ok (.iadd, 1) := by decide +kernel
theorem dX0_copyLockFrom_52 : decode cX0_copyLockFrom 52 = .ok (.aload_n 1, 1) := by decide +kernel
theorem dX0_copyLockFrom_53 : decode cX0_copyLockFrom 53 = .ok (.getfield 25, 3) := by decide +kernel
theorem dX0_copyLockFrom_56 : decode cX0_copyLockFrom 56 = .ok (.iload_n 2, 1) := by decide +kernel
theorem dX0_copyLockFrom_57 : decode cX0_copyLockFrom 57 = .ok (.iconst 1, 1) := by decide +kernel
theorem dX0_copyLockFrom_58 : decode cX0_copyLockFrom 58 = .ok (.iadd, 1) := by decide +kernel
theorem dX0_copyLockFrom_59 : decode cX0_copyLockFrom 59 = .ok (.iaload, 1) := by decide +kernel
theorem dX0_copyLockFrom_60 : decode cX0_copyLockFrom 60 = .ok (.iastore, 1) := by decide +kernel
theorem dX0_copyLockFrom_61 : decode cX0_copyLockFrom 61 = .ok (.return_, 1) := by decide +kernel
theorem dX0_hasLock_0 : decode cX0_hasLock 0 = .ok (.iload_n 1, 1) := by decide +kernel
theorem dX0_hasLock_1 : decode cX0_hasLock 1 = .ok (.ifCond .lt 15, 3) := by decide +kernel
theorem dX0_hasLock_4 : decode cX0_hasLock 4 = .ok (.iload_n 1, 1) := by decide +kernel
theorem dX0_hasLock_5 : decode cX0_hasLock 5 = .ok (.aload_n 0, 1) := by decide +kernel
theorem dX0_hasLock_6 : decode cX0_hasLock 6 = .ok (.getfield 51, 3) := by decide +kernel
theorem dX0_hasLock_9 : decode cX0_hasLock 9 = .ok (.if_icmp .ge 7, 3) := by decide +kernel
theorem dX0_hasLock_12 : decode cX0_hasLock 12 = .ok (.iconst 1, 1) := by decide +kernel
theorem dX0_hasLock_13 : decode cX0_hasLock 13 = .ok (.goto 4, 3) := by decide +kernel
theorem dX0_hasLock_16 : decode cX0_hasLock 16 = .ok (.iconst 0, 1) := by decide +kernel
theorem dX0_hasLock_17 : decode cX0_hasLock 17 = .ok (.ireturn, 1) := by decide +kernel
theorem dX0_hasReach_0 : decode cX0_hasReach 0 = .ok (.iload_n 1, 1) := by decide +kernel
theorem dX0_hasReach_1 : decode cX0_hasReach 1 = .ok (.ifCond .lt 15, 3) := by decide +kernel
theorem dX0_hasReach_4 : decode cX0_hasReach 4 = .ok (.iload_n 1, 1) := by decide +kernel
theorem dX0_hasReach_5 : decode cX0_hasReach 5 = .ok (.aload_n 0, 1) := by decide +kernel
theorem dX0_hasReach_6 : decode cX0_hasReach 6 = .ok (.getfield 51, 3) := by decide +kernel
theorem dX0_hasReach_9 : decode cX0_hasReach 9 = .ok (.if_icmp .gt 7, 3) := by decide +kernel
theorem dX0_hasReach_12 : decode cX0_hasReach 12 = .ok (.iconst 1, 1) := by decide +kernel
theorem dX0_hasReach_13 : decode cX0_hasReach 13 = .ok (.goto 4, 3) := by decide +kernel
theorem dX0_hasReach_16 : decode cX0_hasReach 16 = .ok (.iconst 0, 1) := by decide +kernel
theorem dX0_hasReach_17 : decode cX0_hasReach 17 = .ok (.ireturn, 1) := by decide +kernel
theorem dX0_isAtRest_0 : decode cX0_isAtRest 0 = .ok (.aload_n 0, 1) := by decide +kernel
theorem dX0_isAtRest_1 : decode cX0_isAtRest 1 = .ok (.getfield 21, 3) := by decide +kernel
theorem dX0_isAtRest_4 : decode cX0_isAtRest 4 = .ok (.iload_n 1, 1) := by decide +kernel
theorem dX0_isAtRest_5 : decode cX0_isAtRest 5 = .ok (.baload, 1) := by decide +kernel
theorem dX0_isAtRest_6 : decode cX0_isAtRest 6 = .ok (.ifCond .ne 16, 3) := by decide +kernel
theorem dX0_isAtRest_9 : decode cX0_isAtRest 9 = .ok (.aload_n 0, 1) := by decide +kernel
theorem dX0_isAtRest_10 : decode cX0_isAtRest 10 = .ok (.getfield 18, 3) := by decide +kernel
theorem dX0_isAtRest_13 : decode cX0_isAtRest 13 = .ok (.iload_n 1, 1) := by decide +kernel
theorem dX0_isAtRest_14 : decode cX0_isAtRest 14 = .ok (.iaload, 1) := by decide +kernel
theorem dX0_isAtRest_15 : decode cX0_isAtRest 15 = .ok (.ifCond .ne 7, 3) := by decide +kernel
theorem dX0_isAtRest_18 : decode cX0_isAtRest 18 = .ok (.iconst 1, 1) := by decide +kernel
theorem dX0_isAtRest_19 : decode cX0_isAtRest 19 = .ok (.goto 4, 3) := by decide +kernel
theorem dX0_isAtRest_22 : decode cX0_isAtRest 22 = .ok (.iconst 0, 1) := by decide +kernel
theorem dX0_isAtRest_23 : decode cX0_isAtRest 23 = .ok (.ireturn, 1) := by decide +kernel
theorem dX0_share_0 : decode cX0_share 0 = .ok (.aload_n 0, 1) := by decide +kernel
theorem dX0_share_1 : decode cX0_share 1 = .ok (.getfield 9, 3) := by decide +kernel
theorem dX0_share_4 : decode cX0_share 4 = .ok (.iload_n 1, 1) := by decide +kernel
theorem dX0_share_5 : decode cX0_share 5 = .ok (.iaload, 1) := by decide +kernel
theorem dX0_share_6 : decode cX0_share 6 = .ok (.aload_n 0, 1) := by decide +kernel
theorem dX0_share_7 : decode cX0_share 7 = .ok (.getfield 15, 3) := by decide +kernel
theorem dX0_share_10 : decode cX0_share 10 = .ok (.iload_n 1, 1) := by decide +kernel
theorem dX0_share_11 : decode cX0_share 11 = .ok (.iaload, 1) := by decide +kernel
theorem dX0_share_12 : decode cX0_share 12 = .ok (.imul, 1) := by decide +kernel
theorem dX0_share_13 : decode cX0_share 13 = .ok (.aload_n 0, 1) := by decide +kernel
theorem dX0_share_14 : decode cX0_share 14 = .ok (.getfield 15, 3) := by decide +kernel
theorem dX0_share_17 : decode cX0_share 17 = .ok (.iload_n 1, 1) := by decide +kernel
theorem dX0_share_18 : decode cX0_share 18 = .ok (.iaload, 1) := by decide +kernel
theorem dX0_share_19 : decode cX0_share 19 = .ok (.iconst 2, 1) := by decide +kernel
theorem dX0_share_20 : decode cX0_share 20 = .ok (.iadd, 1) := by decide +kernel
theorem dX0_share_21 : decode cX0_share 21 = .ok (.idiv, 1) := by decide +kernel
theorem dX0_share_22 : decode cX0_share 22 = .ok (.ireturn, 1) := by decide +kernel
theorem dX0_lockNumber_0 : decode cX0_lockNumber 0 = .ok (.iload_n 2, 1) := by decide +kernel
theorem dX0_lockNumber_1 : decode cX0_lockNumber 1 = .ok (.tableswitch 67 0 3 #[31, 38, 45, 52], 31) := by decide +kernel
theorem dX0_lockNumber_32 : decode cX0_lockNumber 32 = .ok (.aload_n 0, 1) := by decide +kernel
theorem dX0_lockNumber_33 : decode cX0_lockNumber 33 = .ok (.getfield 9, 3) := by decide +kernel
theorem dX0_lockNumber_36 : decode cX0_lockNumber 36 = .ok (.iload_n 1, 1) := by decide +kernel
theorem dX0_lockNumber_37 : decode cX0_lockNumber 37 = .ok (.iaload, 1) := by decide +kernel
theorem dX0_lockNumber_38 : decode cX0_lockNumber 38 = .ok (.ireturn, 1) := by decide +kernel
theorem dX0_lockNumber_39 : decode cX0_lockNumber 39 = .ok (.aload_n 0, 1) := by decide +kernel
theorem dX0_lockNumber_40 : decode cX0_lockNumber 40 = .ok (.getfield 15, 3) := by decide +kernel
theorem dX0_lockNumber_43 : decode cX0_lockNumber 43 = .ok (.iload_n 1, 1) := by decide +kernel
theorem dX0_lockNumber_44 : decode cX0_lockNumber 44 = .ok (.iaload, 1) := by decide +kernel
theorem dX0_lockNumber_45 : decode cX0_lockNumber 45 = .ok (.ireturn, 1) := by decide +kernel
theorem dX0_lockNumber_46 : decode cX0_lockNumber 46 = .ok (.aload_n 0, 1) := by decide +kernel
theorem dX0_lockNumber_47 : decode cX0_lockNumber 47 = .ok (.getfield 18, 3) := by decide +kernel
theorem dX0_lockNumber_50 : decode cX0_lockNumber 50 = .ok (.iload_n 1, 1) := by decide +kernel
theorem dX0_lockNumber_51 : decode cX0_lockNumber 51 = .ok (.iaload, 1) := by decide +kernel
theorem dX0_lockNumber_52 : decode cX0_lockNumber 52 = .ok (.ireturn, 1) := by decide +kernel
theorem dX0_lockNumber_53 : decode cX0_lockNumber 53 = .ok (.aload_n 0, 1) := by decide +kernel
theorem dX0_lockNumber_54 : decode cX0_lockNumber 54 = .ok (.getfield 21, 3) := by decide +kernel
theorem dX0_lockNumber_57 : decode cX0_lockNumber 57 = .ok (.iload_n 1, 1) := by decide +kernel
theorem dX0_lockNumber_58 : decode cX0_lockNumber 58 = .ok (.baload, 1) := by decide +kernel
theorem dX0_lockNumber_59 : decode cX0_lockNumber 59 = .ok (.ifCond .eq 7, 3) := by decide +kernel
theorem dX0_lockNumber_62 : decode cX0_lockNumber 62 = .ok (.iconst 1, 1) := by decide +kernel
theorem dX0_lockNumber_63 : decode cX0_lockNumber 63 = .ok (.goto 4, 3) := by decide +kernel
theorem dX0_lockNumber_66 : decode cX0_lockNumber 66 = .ok (.iconst 0, 1) := by decide +kernel
theorem dX0_lockNumber_67 : decode cX0_lockNumber 67 = .ok (.ireturn, 1) := by decide +kernel
theorem dX0_lockNumber_68 : decode cX0_lockNumber 68 = .ok (.aload_n 0, 1) := by decide +kernel
theorem dX0_lockNumber_69 : decode cX0_lockNumber 69 = .ok (.iload_n 1, 1) := by decide +kernel
theorem dX0_lockNumber_70 : decode cX0_lockNumber 70 = .ok (.invokevirtual 72, 3) := by decide +kernel
theorem dX0_lockNumber_73 : decode cX0_lockNumber 73 = .ok (.ireturn, 1) := by decide +kernel
theorem dX0_reachNumber_0 : decode cX0_reachNumber 0 = .ok (.iload_n 2, 1) := by decide +kernel
theorem dX0_reachNumber_1 : decode cX0_reachNumber 1 = .ok (.tableswitch 48 0 2 #[27, 34, 41], 27) := by decide +kernel
theorem dX0_reachNumber_28 : decode cX0_reachNumber 28 = .ok (.aload_n 0, 1) := by decide +kernel
theorem dX0_reachNumber_29 : decode cX0_reachNumber 29 = .ok (.getfield 25, 3) := by decide +kernel
theorem dX0_reachNumber_32 : decode cX0_reachNumber 32 = .ok (.iload_n 1, 1) := by decide +kernel
theorem dX0_reachNumber_33 : decode cX0_reachNumber 33 = .ok (.iaload, 1) := by decide +kernel
theorem dX0_reachNumber_34 : decode cX0_reachNumber 34 = .ok (.ireturn, 1) := by decide +kernel
theorem dX0_reachNumber_35 : decode cX0_reachNumber 35 = .ok (.aload_n 0, 1) := by decide +kernel
theorem dX0_reachNumber_36 : decode cX0_reachNumber 36 = .ok (.getfield 28, 3) := by decide +kernel
theorem dX0_reachNumber_39 : decode cX0_reachNumber 39 = .ok (.iload_n 1, 1) := by decide +kernel
theorem dX0_reachNumber_40 : decode cX0_reachNumber 40 = .ok (.iaload, 1) := by decide +kernel
theorem dX0_reachNumber_41 : decode cX0_reachNumber 41 = .ok (.ireturn, 1) := by decide +kernel
theorem dX0_reachNumber_42 : decode cX0_reachNumber 42 = .ok (.aload_n 0, 1) := by decide +kernel
theorem dX0_reachNumber_43 : decode cX0_reachNumber 43 = .ok (.getfield 31, 3) := by decide +kernel
theorem dX0_reachNumber_46 : decode cX0_reachNumber 46 = .ok (.iload_n 1, 1) := by decide +kernel
theorem dX0_reachNumber_47 : decode cX0_reachNumber 47 = .ok (.iaload, 1) := by decide +kernel
theorem dX0_reachNumber_48 : decode cX0_reachNumber 48 = .ok (.ireturn, 1) := by decide +kernel
theorem dX0_reachNumber_49 : decode cX0_reachNumber 49 = .ok (.aload_n 0, 1) := by decide +kernel
theorem dX0_reachNumber_50 : decode cX0_reachNumber 50 = .ok (.getfield 34, 3) := by decide +kernel
theorem dX0_reachNumber_53 : decode cX0_reachNumber 53 = .ok (.iload_n 1, 1) := by decide +kernel
theorem dX0_reachNumber_54 : decode cX0_reachNumber 54 = .ok (.iaload, 1) := by decide +kernel
theorem dX0_reachNumber_55 : decode cX0_reachNumber 55 = .ok (.ireturn, 1) := by decide +kernel
theorem dX0_setReach_0 : decode cX0_setReach 0 = .ok (.iload_n 2, 1) := by decide +kernel
theorem dX0_setReach_1 : decode cX0_setReach 1 = .ok (.tableswitch 57 0 2 #[27, 37, 47], 27) := by decide +kernel
theorem dX0_setReach_28 : decode cX0_setReach 28 = .ok (.aload_n 0, 1) := by decide +kernel
theorem dX0_setReach_29 : decode cX0_setReach 29 = .ok (.getfield 25, 3) := by decide +kernel
theorem dX0_setReach_32 : decode cX0_setReach 32 = .ok (.iload_n 1, 1) := by decide +kernel
theorem dX0_setReach_33 : decode cX0_setReach 33 = .ok (.iload_n 3, 1) := by decide +kernel
theorem dX0_setReach_34 : decode cX0_setReach 34 = .ok (.iastore, 1) := by decide +kernel
theorem dX0_setReach_35 : decode cX0_setReach 35 = .ok (.goto 30, 3) := by decide +kernel
theorem dX0_setReach_38 : decode cX0_setReach 38 = .ok (.aload_n 0, 1) := by decide +kernel
theorem dX0_setReach_39 : decode cX0_setReach 39 = .ok (.getfield 28, 3) := by decide +kernel
theorem dX0_setReach_42 : decode cX0_setReach 42 = .ok (.iload_n 1, 1) := by decide +kernel
theorem dX0_setReach_43 : decode cX0_setReach 43 = .ok (.iload_n 3, 1) := by decide +kernel
theorem dX0_setReach_44 : decode cX0_setReach 44 = .ok (.iastore, 1) := by decide +kernel
theorem dX0_setReach_45 : decode cX0_setReach 45 = .ok (.goto 20, 3) := by decide +kernel
theorem dX0_setReach_48 : decode cX0_setReach 48 = .ok (.aload_n 0, 1) := by decide +kernel
theorem dX0_setReach_49 : decode cX0_setReach 49 = .ok (.getfield 31, 3) := by decide +kernel
theorem dX0_setReach_52 : decode cX0_setReach 52 = .ok (.iload_n 1, 1) := by decide +kernel
theorem dX0_setReach_53 : decode cX0_setReach 53 = .ok (.iload_n 3, 1) := by decide +kernel
theorem dX0_setReach_54 : decode cX0_setReach 54 = .ok (.iastore, 1) := by decide +kernel
theorem dX0_setReach_55 : decode cX0_setReach 55 = .ok (.goto 10, 3) := by decide +kernel
theorem dX0_setReach_58 : decode cX0_setReach 58 = .ok (.aload_n 0, 1) := by decide +kernel
theorem dX0_setReach_59 : decode cX0_setReach 59 = .ok (.getfield 34, 3) := by decide +kernel
theorem dX0_setReach_62 : decode cX0_setReach 62 = .ok (.iload_n 1, 1) := by decide +kernel
theorem dX0_setReach_63 : decode cX0_setReach 63 = .ok (.iload_n 3, 1) := by decide +kernel
theorem dX0_setReach_64 : decode cX0_setReach 64 = .ok (.iastore, 1) := by decide +kernel
theorem dX0_setReach_65 : decode cX0_setReach 65 = .ok (.return_, 1) := by decide +kernel
theorem dX0_lockFrom_0 : decode cX0_lockFrom 0 = .ok (.iload_n 1, 1) := by decide +kernel
theorem dX0_lockFrom_1 : decode cX0_lockFrom 1 = .ok (.ifCond .eq 7, 3) := by decide +kernel
theorem dX0_lockFrom_4 : decode cX0_lockFrom 4 = .ok (.iload_n 0, 1) := by decide +kernel
theorem dX0_lockFrom_5 : decode cX0_lockFrom 5 = .ok (.goto 6, 3) := by decide +kernel
theorem dX0_lockFrom_8 : decode cX0_lockFrom 8 = .ok (.iload_n 0, 1) := by decide +kernel
theorem dX0_lockFrom_9 : decode cX0_lockFrom 9 = .ok (.iconst 1, 1) := by decide +kernel
theorem dX0_lockFrom_10 : decode cX0_lockFrom 10 = .ok (.isub, 1) := by decide +kernel
theorem dX0_lockFrom_11 : decode cX0_lockFrom 11 = .ok (.ireturn, 1) := by decide +kernel
theorem dX0_passage_0 : decode cX0_passage 0 = .ok (.aload_n 0, 1) := by decide +kernel
theorem dX0_passage_1 : decode cX0_passage 1 = .ok (.iload_n 1, 1) := by decide +kernel
theorem dX0_passage_2 : decode cX0_passage 2 = .ok (.invokevirtual 68, 3) := by decide +kernel
theorem dX0_passage_5 : decode cX0_passage 5 = .ok (.ifCond .ne 6, 3) := by decide +kernel
theorem dX0_passage_8 : decode cX0_passage 8 = .ok (.ldc 76, 2) := by decide +kernel
theorem dX0_passage_10 : decode cX0_passage 10 = .ok (.ireturn, 1) := by decide +kernel
theorem dX0_passage_11 : decode cX0_passage 11 = .ok (.aload_n 0, 1) := by decide +kernel
theorem dX0_passage_12 : decode cX0_passage 12 = .ok (.getfield 25, 3) := by decide +kernel
theorem dX0_passage_15 : decode cX0_passage 15 = .ok (.iload_n 1, 1) := by decide +kernel
theorem dX0_passage_16 : decode cX0_passage 16 = .ok (.iaload, 1) := by decide +kernel
theorem dX0_passage_17 : decode cX0_passage 17 = .ok (.istore 4, 2) := by decide +kernel
theorem dX0_passage_19 : decode cX0_passage 19 = .ok (.aload_n 0, 1) := by decide +kernel
theorem dX0_passage_20 : decode cX0_passage 20 = .ok (.getfield 25, 3) := by decide +kernel
theorem dX0_passage_23 : decode cX0_passage 23 = .ok (.iload_n 1, 1) := by decide +kernel
theorem dX0_passage_24 : decode cX0_passage 24 = .ok (.iconst 1, 1) := by decide +kernel
theorem dX0_passage_25 : decode cX0_passage 25 = .ok (.iadd, 1) := by decide +kernel
theorem dX0_passage_26 : decode cX0_passage 26 = .ok (.iaload, 1) := by decide +kernel
theorem dX0_passage_27 : decode cX0_passage 27 = .ok (.istore 5, 2) := by decide +kernel
theorem dX0_passage_29 : decode cX0_passage 29 = .ok (.aload_n 0, 1) := by decide +kernel
theorem dX0_passage_30 : decode cX0_passage 30 = .ok (.getfield 18, 3) := by decide +kernel
theorem dX0_passage_33 : decode cX0_passage 33 = .ok (.iload_n 1, 1) := by decide +kernel
theorem dX0_passage_34 : decode cX0_passage 34 = .ok (.iaload, 1) := by decide +kernel
theorem dX0_passage_35 : decode cX0_passage 35 = .ok (.istore 6, 2) := by decide +kernel
theorem dX0_passage_37 : decode cX0_passage 37 = .ok (.aload_n 0, 1) := by decide +kernel
theorem dX0_passage_38 : decode cX0_passage 38 = .ok (.getfield 21, 3) := by decide +kernel
theorem dX0_passage_41 : decode cX0_passage 41 = .ok (.iload_n 1, 1) := by decide +kernel
theorem dX0_passage_42 : decode cX0_passage 42 = .ok (.baload, 1) := by decide +kernel
theorem dX0_passage_43 : decode cX0_passage 43 = .ok (.istore 7, 2) := by decide +kernel
theorem dX0_passage_45 : decode cX0_passage 45 = .ok (.iload_n 2, 1) := by decide +kernel
theorem dX0_passage_46 : decode cX0_passage 46 = .ok (.ifCond .eq 45, 3) := by decide +kernel
theorem dX0_passage_49 : decode cX0_passage 49 = .ok (.aload_n 0, 1) := by decide +kernel
theorem dX0_passage_50 : decode cX0_passage 50 = .ok (.getfield 21, 3) := by decide +kernel
theorem dX0_passage_53 : decode cX0_passage 53 = .ok (.iload_n 1, 1) := by decide +kernel
theorem dX0_passage_54 : decode cX0_passage 54 = .ok (.baload, 1) := by decide +kernel
theorem dX0_passage_55 : decode cX0_passage 55 = .ok (.ifCond .eq 11, 3) := by decide +kernel
theorem dX0_passage_58 : decode cX0_passage 58 = .ok (.aload_n 0, 1) := by decide +kernel
theorem dX0_passage_59 : decode cX0_passage 59 = .ok (.iload_n 1, 1) := by decide +kernel
theorem dX0_passage_60 : decode cX0_passage 60 = .ok (.invokevirtual 77, 3) := by decide +kernel
theorem dX0_passage_63 : decode cX0_passage 63 = .ok (.ifCond .eq 24, 3) := by decide +kernel
theorem dX0_passage_66 : decode cX0_passage 66 = .ok (.aload_n 0, 1) := by decide +kernel
theorem dX0_passage_67 : decode cX0_passage 67 = .ok (.iload_n 1, 1) := by decide +kernel
theorem dX0_passage_68 : decode cX0_passage 68 = .ok (.invokevirtual 80, 3) := by decide +kernel
theorem dX0_passage_71 : decode cX0_passage 71 = .ok (.ifCond .eq 16, 3) := by decide +kernel
theorem dX0_passage_74 : decode cX0_passage 74 = .ok (.aload_n 0, 1) := by decide +kernel
theorem dX0_passage_75 : decode cX0_passage 75 = .ok (.iload_n 1, 1) := by decide +kernel
theorem dX0_passage_76 : decode cX0_passage 76 = .ok (.iload_n 3, 1) := by decide +kernel
theorem dX0_passage_77 : decode cX0_passage 77 = .ok (.invokevirtual 83, 3) := by decide +kernel
theorem dX0_passage_80 : decode cX0_passage 80 = .ok (.ifCond .eq 7, 3) := by decide +kernel
theorem dX0_passage_83 : decode cX0_passage 83 = .ok (.iconst 1, 1) := by decide +kernel
theorem dX0_passage_84 : decode cX0_passage 84 = .ok (.goto 47, 3) := by decide +kernel
theorem dX0_passage_87 : decode cX0_passage 87 = .ok (.iconst 0, 1) := by decide +kernel
theorem dX0_passage_88 : decode cX0_passage 88 = .ok (.goto 43, 3) := by decide +kernel
theorem dX0_passage_91 : decode cX0_passage 91 = .ok (.aload_n 0, 1) := by decide +kernel
theorem dX0_passage_92 : decode cX0_passage 92 = .ok (.getfield 21, 3) := by decide +kernel
theorem dX0_passage_95 : decode cX0_passage 95 = .ok (.iload_n 1, 1) := by decide +kernel
theorem dX0_passage_96 : decode cX0_passage 96 = .ok (.baload, 1) := by decide +kernel
theorem dX0_passage_97 : decode cX0_passage 97 = .ok (.ifCond .ne 11, 3) := by decide +kernel
theorem dX0_passage_100 : decode cX0_passage 100 = .ok (.aload_n 0, 1) := by decide +kernel
theorem dX0_passage_101 : decode cX0_passage 101 = .ok (.iload_n 1, 1) := by decide +kernel
theorem dX0_passage_102 : decode cX0_passage 102 = .ok (.invokevirtual 80, 3) := by decide +kernel
theorem dX0_passage_105 : decode cX0_passage 105 = .ok (.ifCond .eq 25, 3) := by decide +kernel
theorem dX0_passage_108 : decode cX0_passage 108 = .ok (.aload_n 0, 1) := by decide +kernel
theorem dX0_passage_109 : decode cX0_passage 109 = .ok (.iload_n 1, 1) := by decide +kernel
theorem dX0_passage_110 : decode cX0_passage 110 = .ok (.invokevirtual 77, 3) := by decide +kernel
theorem dX0_passage_113 : decode cX0_passage 113 = .ok (.ifCond .eq 17, 3) := by decide +kernel
theorem dX0_passage_116 : decode cX0_passage 116 = .ok (.aload_n 0, 1) := by decide +kernel
theorem dX0_passage_117 : decode cX0_passage 117 = .ok (.iload_n 1, 1) := by decide +kernel
theorem dX0_passage_118 : decode cX0_passage 118 = .ok (.iload_n 3, 1) := by decide +kernel
theorem dX0_passage_119 : decode cX0_passage 119 = .ok (.ineg, 1) := by decide +kernel
theorem dX0_passage_120 : decode cX0_passage 120 = .ok (.invokevirtual 83, 3) := by decide +kernel
theorem dX0_passage_123 : decode cX0_passage 123 = .ok (.ifCond .eq 7, 3) := by decide +kernel
theorem dX0_passage_126 : decode cX0_passage 126 = .ok (.iconst 1, 1) := by decide +kernel
theorem dX0_passage_127 : decode cX0_passage 127 = .ok (.goto 4, 3) := by decide +kernel
theorem dX0_passage_130 : decode cX0_passage 130 = .ok (.iconst 0, 1) := by decide +kernel
theorem dX0_passage_131 : decode cX0_passage 131 = .ok (.istore 8, 2) := by decide +kernel
theorem dX0_passage_133 : decode cX0_passage 133 = .ok (.iload 8, 2) := by decide +kernel
theorem dX0_passage_135 : decode cX0_passage 135 = .ok (.ifCond .ne 40, 3) := by decide +kernel
theorem dX0_passage_138 : decode cX0_passage 138 = .ok (.aload_n 0, 1) := by decide +kernel
theorem dX0_passage_139 : decode cX0_passage 139 = .ok (.getfield 25, 3) := by decide +kernel
theorem dX0_passage_142 : decode cX0_passage 142 = .ok (.iload_n 1, 1) := by decide +kernel
theorem dX0_passage_143 : decode cX0_passage 143 = .ok (.iload 4, 2) := by decide +kernel
theorem dX0_passage_145 : decode cX0_passage 145 = .ok (.iastore, 1) := by decide +kernel
theorem dX0_passage_146 : decode cX0_passage 146 = .ok (.aload_n 0, 1) := by decide +kernel
theorem dX0_passage_147 : decode cX0_passage 147 = .ok (.getfield 25, 3) := by decide +kernel
theorem dX0_passage_150 : decode cX0_passage 150 = .ok (.iload_n 1, 1) := by decide +kernel
theorem dX0_passage_151 : decode cX0_passage 151 = .ok (.iconst 1, 1) := by decide +kernel
theorem dX0_passage_152 : decode cX0_passage 152 = .ok (.iadd, 1) := by decide +kernel
theorem dX0_passage_153 : decode cX0_passage 153 = .ok (.iload 5, 2) := by decide +kernel
theorem dX0_passage_155 : decode cX0_passage 155 = .ok (.iastore, 1) := by decide +kernel
theorem dX0_passage_156 : decode cX0_passage 156 = .ok (.aload_n 0, 1) := by decide +kernel
theorem dX0_passage_157 : decode cX0_passage 157 = .ok (.getfield 18, 3) := by decide +kernel
theorem dX0_passage_160 : decode cX0_passage 160 = .ok (.iload_n 1, 1) := by decide +kernel
theorem dX0_passage_161 : decode cX0_passage 161 = .ok (.iload 6, 2) := by decide +kernel
theorem dX0_passage_163 : decode cX0_passage 163 = .ok (.iastore, 1) := by decide +kernel
theorem dX0_passage_164 : decode cX0_passage 164 = .ok (.aload_n 0, 1) := by decide +kernel
theorem dX0_passage_165 : decode cX0_passage 165 = .ok (.getfield 21, 3) := by decide +kernel
theorem dX0_passage_168 : decode cX0_passage 168 = .ok (.iload_n 1, 1) := by decide +kernel
theorem dX0_passage_169 : decode cX0_passage 169 = .ok (.iload 7, 2) := by decide +kernel
theorem dX0_passage_171 : decode cX0_passage 171 = .ok (.bastore, 1) := by decide +kernel
theorem dX0_passage_172 : decode cX0_passage 172 = .ok (.ldc 76, 2) := by decide +kernel
theorem dX0_passage_174 : decode cX0_passage 174 = .ok (.ireturn, 1) := by decide +kernel
theorem dX0_passage_175 : decode cX0_passage 175 = .ok (.iload 5, 2) := by decide +kernel
theorem dX0_passage_177 : decode cX0_passage 177 = .ok (.aload_n 0, 1) := by decide +kernel
theorem dX0_passage_178 : decode cX0_passage 178 = .ok (.getfield 25, 3) := by decide +kernel
theorem dX0_passage_181 : decode cX0_passage 181 = .ok (.iload_n 1, 1) := by decide +kernel
theorem dX0_passage_182 : decode cX0_passage 182 = .ok (.iconst 1, 1) := by decide +kernel
theorem dX0_passage_183 : decode cX0_passage 183 = .ok (.iadd, 1) := by decide +kernel
theorem dX0_passage_184 : decode cX0_passage 184 = .ok (.iaload, 1) := by decide +kernel
theorem dX0_passage_185 : decode cX0_passage 185 = .ok (.isub, 1) := by decide +kernel
theorem dX0_passage_186 : decode cX0_passage 186 = .ok (.istore 9, 2) := by decide +kernel
theorem dX0_passage_188 : decode cX0_passage 188 = .ok (.aload_n 0, 1) := by decide +kernel
theorem dX0_passage_189 : decode cX0_passage 189 = .ok (.getfield 40, 3) := by decide +kernel
theorem dX0_passage_192 : decode cX0_passage 192 = .ok (.iload 9, 2) := by decide +kernel
theorem dX0_passage_194 : decode cX0_passage 194 = .ok (.invokevirtual 87, 3) := by decide +kernel
theorem dX0_passage_197 : decode cX0_passage 197 = .ok (.iload 9, 2) := by decide +kernel
theorem dX0_passage_199 : decode cX0_passage 199 = .ok (.ireturn, 1) := by decide +kernel
theorem dX0_fills_0 : decode cX0_fills 0 = .ok (.aload_n 0, 1) := by decide +kernel
theorem dX0_fills_1 : decode cX0_fills 1 = .ok (.getfield 9, 3) := by decide +kernel
theorem dX0_fills_4 : decode cX0_fills 4 = .ok (.iload_n 1, 1) := by decide +kernel
theorem dX0_fills_5 : decode cX0_fills 5 = .ok (.iaload, 1) := by decide +kernel
theorem dX0_fills_6 : decode cX0_fills 6 = .ok (.aload_n 0, 1) := by decide +kernel
theorem dX0_fills_7 : decode cX0_fills 7 = .ok (.getfield 18, 3) := by decide +kernel
theorem dX0_fills_10 : decode cX0_fills 10 = .ok (.iload_n 1, 1) := by decide +kernel
theorem dX0_fills_11 : decode cX0_fills 11 = .ok (.iaload, 1) := by decide +kernel
theorem dX0_fills_12 : decode cX0_fills 12 = .ok (.isub, 1) := by decide +kernel
theorem dX0_fills_13 : decode cX0_fills 13 = .ok (.istore_n 2, 1) := by decide +kernel
theorem dX0_fills_14 : decode cX0_fills 14 = .ok (.aload_n 0, 1) := by decide +kernel
theorem dX0_fills_15 : decode cX0_fills 15 = .ok (.iload_n 1, 1) := by decide +kernel
theorem dX0_fills_16 : decode cX0_fills 16 = .ok (.iconst 2, 1) := by decide +kernel
theorem dX0_fills_17 : decode cX0_fills 17 = .ok (.iload_n 1, 1) := by decide +kernel
theorem dX0_fills_18 : decode cX0_fills 18 = .ok (.iconst 1, 1) := by decide +kernel
theorem dX0_fills_19 : decode cX0_fills 19 = .ok (.iadd, 1) := by decide +kernel
theorem dX0_fills_20 : decode cX0_fills 20 = .ok (.iload_n 2, 1) := by decide +kernel
theorem dX0_fills_21 : decode cX0_fills 21 = .ok (.ineg, 1) := by decide +kernel
theorem dX0_fills_22 : decode cX0_fills 22 = .ok (.invokevirtual 91, 3) := by decide +kernel
theorem dX0_fills_25 : decode cX0_fills 25 = .ok (.ifCond .eq 5, 3) := by decide +kernel
theorem dX0_fills_28 : decode cX0_fills 28 = .ok (.iconst 0, 1) := by decide +kernel
theorem dX0_fills_29 : decode cX0_fills 29 = .ok (.ireturn, 1) := by decide +kernel
theorem dX0_fills_30 : decode cX0_fills 30 = .ok (.aload_n 0, 1) := by decide +kernel
theorem dX0_fills_31 : decode cX0_fills 31 = .ok (.getfield 25, 3) := by decide +kernel
theorem dX0_fills_34 : decode cX0_fills 34 = .ok (.iload_n 1, 1) := by decide +kernel
theorem dX0_fills_35 : decode cX0_fills 35 = .ok (.iconst 1, 1) := by decide +kernel
theorem dX0_fills_36 : decode cX0_fills 36 = .ok (.iadd, 1) := by decide +kernel
theorem dX0_fills_37 : decode cX0_fills 37 = .ok (.dup2, 1) := by decide +kernel
theorem dX0_fills_38 : decode cX0_fills 38 = .ok (.iaload, 1) := by decide +kernel
theorem dX0_fills_39 : decode cX0_fills 39 = .ok (.iload_n 2, 1) := by decide +kernel
theorem dX0_fills_40 : decode cX0_fills 40 = .ok (.isub, 1) := by decide +kernel
theorem dX0_fills_41 : decode cX0_fills 41 = .ok (.iastore, 1) := by decide +kernel
theorem dX0_fills_42 : decode cX0_fills 42 = .ok (.aload_n 0, 1) := by decide +kernel
theorem dX0_fills_43 : decode cX0_fills 43 = .ok (.getfield 18, 3) := by decide +kernel
theorem dX0_fills_46 : decode cX0_fills 46 = .ok (.iload_n 1, 1) := by decide +kernel
theorem dX0_fills_47 : decode cX0_fills 47 = .ok (.iconst 0, 1) := by decide +kernel
theorem dX0_fills_48 : decode cX0_fills 48 = .ok (.iastore, 1) := by decide +kernel
theorem dX0_fills_49 : decode cX0_fills 49 = .ok (.aload_n 0, 1) := by decide +kernel
theorem dX0_fills_50 : decode cX0_fills 50 = .ok (.getfield 21, 3) := by decide +kernel
theorem dX0_fills_53 : decode cX0_fills 53 = .ok (.iload_n 1, 1) := by decide +kernel
theorem dX0_fills_54 : decode cX0_fills 54 = .ok (.iconst 1, 1) := by decide +kernel
theorem dX0_fills_55 : decode cX0_fills 55 = .ok (.bastore, 1) := by decide +kernel
theorem dX0_fills_56 : decode cX0_fills 56 = .ok (.iconst 1, 1) := by decide +kernel
theorem dX0_fills_57 : decode cX0_fills 57 = .ok (.ireturn, 1) := by decide +kernel
theorem dX0_empties_0 : decode cX0_empties 0 = .ok (.aload_n 0, 1) := by decide +kernel
theorem dX0_empties_1 : decode cX0_empties 1 = .ok (.iload_n 1, 1) := by decide +kernel
theorem dX0_empties_2 : decode cX0_empties 2 = .ok (.invokevirtual 72, 3) := by decide +kernel
theorem dX0_empties_5 : decode cX0_empties 5 = .ok (.istore_n 2, 1) := by decide +kernel
theorem dX0_empties_6 : decode cX0_empties 6 = .ok (.aload_n 0, 1) := by decide +kernel
theorem dX0_empties_7 : decode cX0_empties 7 = .ok (.getfield 9, 3) := by decide +kernel
theorem dX0_empties_10 : decode cX0_empties 10 = .ok (.iload_n 1, 1) := by decide +kernel
theorem dX0_empties_11 : decode cX0_empties 11 = .ok (.iaload, 1) := by decide +kernel
theorem dX0_empties_12 : decode cX0_empties 12 = .ok (.iload_n 2, 1) := by decide +kernel
theorem dX0_empties_13 : decode cX0_empties 13 = .ok (.isub, 1) := by decide +kernel
theorem dX0_empties_14 : decode cX0_empties 14 = .ok (.istore_n 3, 1) := by decide +kernel
theorem dX0_empties_15 : decode cX0_empties 15 = .ok (.aload_n 0, 1) := by decide +kernel
theorem dX0_empties_16 : decode cX0_empties 16 = .ok (.iload_n 1, 1) := by decide +kernel
theorem dX0_empties_17 : decode cX0_empties 17 = .ok (.iconst 1, 1) := by decide +kernel
theorem dX0_empties_18 : decode cX0_empties 18 = .ok (.iload_n 1, 1) := by decide +kernel
theorem dX0_empties_19 : decode cX0_empties 19 = .ok (.iload_n 3, 1) := by decide +kernel
theorem dX0_empties_20 : decode cX0_empties 20 = .ok (.invokevirtual 91, 3) := by decide +kernel
theorem dX0_empties_23 : decode cX0_empties 23 = .ok (.ifCond .eq 5, 3) := by decide +kernel
theorem dX0_empties_26 : decode cX0_empties 26 = .ok (.iconst 0, 1) := by decide +kernel
theorem dX0_empties_27 : decode cX0_empties 27 = .ok (.ireturn, 1) := by decide +kernel
theorem dX0_empties_28 : decode cX0_empties 28 = .ok (.aload_n 0, 1) := by decide +kernel
theorem dX0_empties_29 : decode cX0_empties 29 = .ok (.getfield 25, 3) := by decide +kernel
theorem dX0_empties_32 : decode cX0_empties 32 = .ok (.iload_n 1, 1) := by decide +kernel
theorem dX0_empties_33 : decode cX0_empties 33 = .ok (.dup2, 1) := by decide +kernel
theorem dX0_empties_34 : decode cX0_empties 34 = .ok (.iaload, 1) := by decide +kernel
theorem dX0_empties_35 : decode cX0_empties 35 = .ok (.iload_n 3, 1) := by decide +kernel
theorem dX0_empties_36 : decode cX0_empties 36 = .ok (.iadd, 1) := by decide +kernel
theorem dX0_empties_37 : decode cX0_empties 37 = .ok (.iastore, 1) := by decide +kernel
theorem dX0_empties_38 : decode cX0_empties 38 = .ok (.aload_n 0, 1) := by decide +kernel
theorem dX0_empties_39 : decode cX0_empties 39 = .ok (.getfield 18, 3) := by decide +kernel
theorem dX0_empties_42 : decode cX0_empties 42 = .ok (.iload_n 1, 1) := by decide +kernel
theorem dX0_empties_43 : decode cX0_empties 43 = .ok (.iload_n 2, 1) := by decide +kernel
theorem dX0_empties_44 : decode cX0_empties 44 = .ok (.iastore, 1) := by decide +kernel
theorem dX0_empties_45 : decode cX0_empties 45 = .ok (.aload_n 0, 1) := by decide +kernel
theorem dX0_empties_46 : decode cX0_empties 46 = .ok (.getfield 21, 3) := by decide +kernel
theorem dX0_empties_49 : decode cX0_empties 49 = .ok (.iload_n 1, 1) := by decide +kernel
theorem dX0_empties_50 : decode cX0_empties 50 = .ok (.iconst 0, 1) := by decide +kernel
theorem dX0_empties_51 : decode cX0_empties 51 = .ok (.bastore, 1) := by decide +kernel
theorem dX0_empties_52 : decode cX0_empties 52 = .ok (.iconst 1, 1) := by decide +kernel
theorem dX0_empties_53 : decode cX0_empties 53 = .ok (.ireturn, 1) := by decide +kernel
theorem dX0_swaps_0 : decode cX0_swaps 0 = .ok (.aload_n 0, 1) := by decide +kernel
theorem dX0_swaps_1 : decode cX0_swaps 1 = .ok (.iload_n 1, 1) := by decide +kernel
theorem dX0_swaps_2 : decode cX0_swaps 2 = .ok (.iconst 3, 1) := by decide +kernel
theorem dX0_swaps_3 : decode cX0_swaps 3 = .ok (.iload_n 1, 1) := by decide +kernel
theorem dX0_swaps_4 : decode cX0_swaps 4 = .ok (.iconst 1, 1) := by decide +kernel
theorem dX0_swaps_5 : decode cX0_swaps 5 = .ok (.iadd, 1) := by decide +kernel
theorem dX0_swaps_6 : decode cX0_swaps 6 = .ok (.iload_n 2, 1) := by decide +kernel
theorem dX0_swaps_7 : decode cX0_swaps 7 = .ok (.ineg, 1) := by decide +kernel
theorem dX0_swaps_8 : decode cX0_swaps 8 = .ok (.invokevirtual 91, 3) := by decide +kernel
theorem dX0_swaps_11 : decode cX0_swaps 11 = .ok (.ifCond .ne 14, 3) := by decide +kernel
theorem dX0_swaps_14 : decode cX0_swaps 14 = .ok (.aload_n 0, 1) := by decide +kernel
theorem dX0_swaps_15 : decode cX0_swaps 15 = .ok (.iload_n 1, 1) := by decide +kernel
theorem dX0_swaps_16 : decode cX0_swaps 16 = .ok (.iconst 3, 1) := by decide +kernel
theorem dX0_swaps_17 : decode cX0_swaps 17 = .ok (.iload_n 1, 1) := by decide +kernel
theorem dX0_swaps_18 : decode cX0_swaps 18 = .ok (.iload_n 2, 1) := by decide +kernel
theorem dX0_swaps_19 : decode cX0_swaps 19 = .ok (.invokevirtual 91, 3) := by decide +kernel
theorem dX0_swaps_22 : decode cX0_swaps 22 = .ok (.ifCond .eq 5, 3) := by decide +kernel
theorem dX0_swaps_25 : decode cX0_swaps 25 = .ok (.iconst 0, 1) := by decide +kernel
theorem dX0_swaps_26 : decode cX0_swaps 26 = .ok (.ireturn, 1) := by decide +kernel
theorem dX0_swaps_27 : decode cX0_swaps 27 = .ok (.aload_n 0, 1) := by decide +kernel
theorem dX0_swaps_28 : decode cX0_swaps 28 = .ok (.getfield 25, 3) := by decide +kernel
theorem dX0_swaps_31 : decode cX0_swaps 31 = .ok (.iload_n 1, 1) := by decide +kernel
theorem dX0_swaps_32 : decode cX0_swaps 32 = .ok (.iconst 1, 1) := by decide +kernel
theorem dX0_swaps_33 : decode cX0_swaps 33 = .ok (.iadd, 1) := by decide +kernel
theorem dX0_swaps_34 : decode cX0_swaps 34 = .ok (.dup2, 1) := by decide +kernel
theorem dX0_swaps_35 : decode cX0_swaps 35 = .ok (.iaload, 1) := by decide +kernel
theorem dX0_swaps_36 : decode cX0_swaps 36 = .ok (.iload_n 2, 1) := by decide +kernel
theorem dX0_swaps_37 : decode cX0_swaps 37 = .ok (.isub, 1) := by decide +kernel
theorem dX0_swaps_38 : decode cX0_swaps 38 = .ok (.iastore, 1) := by decide +kernel
theorem dX0_swaps_39 : decode cX0_swaps 39 = .ok (.aload_n 0, 1) := by decide +kernel
theorem dX0_swaps_40 : decode cX0_swaps 40 = .ok (.getfield 25, 3) := by decide +kernel
theorem dX0_swaps_43 : decode cX0_swaps 43 = .ok (.iload_n 1, 1) := by decide +kernel
theorem dX0_swaps_44 : decode cX0_swaps 44 = .ok (.dup2, 1) := by decide +kernel
theorem dX0_swaps_45 : decode cX0_swaps 45 = .ok (.iaload, 1) := by decide +kernel
theorem dX0_swaps_46 : decode cX0_swaps 46 = .ok (.iload_n 2, 1) := by decide +kernel
theorem dX0_swaps_47 : decode cX0_swaps 47 = .ok (.iadd, 1) := by decide +kernel
theorem dX0_swaps_48 : decode cX0_swaps 48 = .ok (.iastore, 1) := by decide +kernel
theorem dX0_swaps_49 : decode cX0_swaps 49 = .ok (.iconst 1, 1) := by decide +kernel
theorem dX0_swaps_50 : decode cX0_swaps 50 = .ok (.ireturn, 1) := by decide +kernel
theorem dX0_isBarred_0 : decode cX0_isBarred 0 = .ok (.aload_n 0, 1) := by decide +kernel
theorem dX0_isBarred_1 : decode cX0_isBarred 1 = .ok (.getfield 25, 3) := by decide +kernel
theorem dX0_isBarred_4 : decode cX0_isBarred 4 = .ok (.iload_n 3, 1) := by decide +kernel
theorem dX0_isBarred_5 : decode cX0_isBarred 5 = .ok (.iaload, 1) := by decide +kernel
theorem dX0_isBarred_6 : decode cX0_isBarred 6 = .ok (.iload 4, 2) := by decide +kernel
theorem dX0_isBarred_8 : decode cX0_isBarred 8 = .ok (.iadd, 1) := by decide +kernel
theorem dX0_isBarred_9 : decode cX0_isBarred 9 = .ok (.istore 5, 2) := by decide +kernel
theorem dX0_isBarred_11 : decode cX0_isBarred 11 = .ok (.iload 5, 2) := by decide +kernel
theorem dX0_isBarred_13 : decode cX0_isBarred 13 = .ok (.aload_n 0, 1) := by decide +kernel
theorem dX0_isBarred_14 : decode cX0_isBarred 14 = .ok (.getfield 28, 3) := by decide +kernel
theorem dX0_isBarred_17 : decode cX0_isBarred 17 = .ok (.iload_n 3, 1) := by decide +kernel
theorem dX0_isBarred_18 : decode cX0_isBarred 18 = .ok (.iaload, 1) := by decide +kernel
theorem dX0_isBarred_19 : decode cX0_isBarred 19 = .ok (.if_icmp .lt 16, 3) := by decide +kernel
theorem dX0_isBarred_22 : decode cX0_isBarred 22 = .ok (.iload 5, 2) := by decide +kernel
theorem dX0_isBarred_24 : decode cX0_isBarred 24 = .ok (.aload_n 0, 1) := by decide +kernel
theorem dX0_isBarred_25 : decode cX0_isBarred 25 = .ok (.getfield 31, 3) := by decide +kernel
theorem dX0_isBarred_28 : decode cX0_isBarred 28 = .ok (.iload_n 3, 1) := by decide +kernel
theorem dX0_isBarred_29 : decode cX0_isBarred 29 = .ok (.iaload, 1) := by decide +kernel
theorem dX0_isBarred_30 : decode cX0_isBarred 30 = .ok (.if_icmp .gt 5, 3) := by decide +kernel
theorem dX0_isBarred_33 : decode cX0_isBarred 33 = .ok (.iconst 0, 1) := by decide +kernel
theorem dX0_isBarred_34 : decode cX0_isBarred 34 = .ok (.ireturn, 1) := by decide +kernel
theorem dX0_isBarred_35 : decode cX0_isBarred 35 = .ok (.aload_n 0, 1) := by decide +kernel
theorem dX0_isBarred_36 : decode cX0_isBarred 36 = .ok (.getfield 47, 3) := by decide +kernel
theorem dX0_isBarred_39 : decode cX0_isBarred 39 = .ok (.iconst 1, 1) := by decide +kernel
theorem dX0_isBarred_40 : decode cX0_isBarred 40 = .ok (.putfield 95, 3) := by decide +kernel
theorem dX0_isBarred_43 : decode cX0_isBarred 43 = .ok (.aload_n 0, 1) := by decide +kernel
theorem dX0_isBarred_44 : decode cX0_isBarred 44 = .ok (.getfield 47, 3) := by decide +kernel
theorem dX0_isBarred_47 : decode cX0_isBarred 47 = .ok (.iload_n 1, 1) := by decide +kernel
theorem dX0_isBarred_48 : decode cX0_isBarred 48 = .ok (.putfield 99, 3) := by decide +kernel
theorem dX0_isBarred_51 : decode cX0_isBarred 51 = .ok (.aload_n 0, 1) := by decide +kernel
theorem dX0_isBarred_52 : decode cX0_isBarred 52 = .ok (.getfield 47, 3) := by decide +kernel
theorem dX0_isBarred_55 : decode cX0_isBarred 55 = .ok (.iload_n 2, 1) := by decide +kernel
theorem dX0_isBarred_56 : decode cX0_isBarred 56 = .ok (.putfield 102, 3) := by decide +kernel
theorem dX0_isBarred_59 : decode cX0_isBarred 59 = .ok (.aload_n 0, 1) := by decide +kernel
theorem dX0_isBarred_60 : decode cX0_isBarred 60 = .ok (.getfield 47, 3) := by decide +kernel
theorem dX0_isBarred_63 : decode cX0_isBarred 63 = .ok (.iload_n 3, 1) := by decide +kernel
theorem dX0_isBarred_64 : decode cX0_isBarred 64 = .ok (.putfield 105, 3) := by decide +kernel
theorem dX0_isBarred_67 : decode cX0_isBarred 67 = .ok (.aload_n 0, 1) := by decide +kernel
theorem dX0_isBarred_68 : decode cX0_isBarred 68 = .ok (.getfield 47, 3) := by decide +kernel
theorem dX0_isBarred_71 : decode cX0_isBarred 71 = .ok (.iload 5, 2) := by decide +kernel
theorem dX0_isBarred_73 : decode cX0_isBarred 73 = .ok (.aload_n 0, 1) := by decide +kernel
theorem dX0_isBarred_74 : decode cX0_isBarred 74 = .ok (.getfield 28, 3) := by decide +kernel
theorem dX0_isBarred_77 : decode cX0_isBarred 77 = .ok (.iload_n 3, 1) := by decide +kernel
theorem dX0_isBarred_78 : decode cX0_isBarred 78 = .ok (.iaload, 1) := by decide +kernel
theorem dX0_isBarred_79 : decode cX0_isBarred 79 = .ok (.if_icmp .ge 7, 3) := by decide +kernel
theorem dX0_isBarred_82 : decode cX0_isBarred 82 = .ok (.iconst 1, 1) := by decide +kernel
theorem dX0_isBarred_83 : decode cX0_isBarred 83 = .ok (.goto 4, 3) := by decide +kernel
theorem dX0_isBarred_86 : decode cX0_isBarred 86 = .ok (.iconst 2, 1) := by decide +kernel
theorem dX0_isBarred_87 : decode cX0_isBarred 87 = .ok (.putfield 108, 3) := by decide +kernel
theorem dX0_isBarred_90 : decode cX0_isBarred 90 = .ok (.iconst 1, 1) := by decide +kernel
theorem dX0_isBarred_91 : decode cX0_isBarred 91 = .ok (.ireturn, 1) := by decide +kernel
theorem dX0_travel_0 : decode cX0_travel 0 = .ok (.iconst 0, 1) := by decide +kernel
theorem dX0_travel_1 : decode cX0_travel 1 = .ok (.istore 4, 2) := by decide +kernel
theorem dX0_travel_3 : decode cX0_travel 3 = .ok (.iload_n 1, 1) := by decide +kernel
theorem dX0_travel_4 : decode cX0_travel 4 = .ok (.iload_n 2, 1) := by decide +kernel
theorem dX0_travel_5 : decode cX0_travel 5 = .ok (.invokestatic 111, 3) := by decide +kernel
theorem dX0_travel_8 : decode cX0_travel 8 = .ok (.istore 5, 2) := by decide +kernel
theorem dX0_travel_10 : decode cX0_travel 10 = .ok (.aload_n 0, 1) := by decide +kernel
theorem dX0_travel_11 : decode cX0_travel 11 = .ok (.iload 5, 2) := by decide +kernel
theorem dX0_travel_13 : decode cX0_travel 13 = .ok (.invokevirtual 68, 3) := by decide +kernel
theorem dX0_travel_16 : decode cX0_travel 16 = .ok (.ifCond .eq 51, 3) := by decide +kernel
theorem dX0_travel_19 : decode cX0_travel 19 = .ok (.iload 4, 2) := by decide +kernel
theorem dX0_travel_21 : decode cX0_travel 21 = .ok (.bipush 6, 2) := by decide +kernel
theorem dX0_travel_23 : decode cX0_travel 23 = .ok (.if_icmp .ge 44, 3) := by decide +kernel
theorem dX0_travel_26 : decode cX0_travel 26 = .ok (.aload_n 0, 1) := by decide +kernel
theorem dX0_travel_27 : decode cX0_travel 27 = .ok (.iload 5, 2) := by decide +kernel
theorem dX0_travel_29 : decode cX0_travel 29 = .ok (.iload_n 2, 1) := by decide +kernel
theorem dX0_travel_30 : decode cX0_travel 30 = .ok (.iload_n 3, 1) := by decide +kernel
theorem dX0_travel_31 : decode cX0_travel 31 = .ok (.invokevirtual 115, 3) := by decide +kernel
theorem dX0_travel_34 : decode cX0_travel 34 = .ok (.ldc 76, 2) := by decide +kernel
theorem dX0_travel_36 : decode cX0_travel 36 = .ok (.if_icmp .ne 11, 3) := by decide +kernel
theorem dX0_travel_39 : decode cX0_travel 39 = .ok (.aload_n 0, 1) := by decide +kernel
theorem dX0_travel_40 : decode cX0_travel 40 = .ok (.iconst 1, 1) := by decide +kernel
theorem dX0_travel_41 : decode cX0_travel 41 = .ok (.putfield 119, 3) := by decide +kernel
theorem dX0_travel_44 : decode cX0_travel 44 = .ok (.iload 4, 2) := by decide +kernel
theorem dX0_travel_46 : decode cX0_travel 46 = .ok (.ireturn, 1) := by decide +kernel
theorem dX0_travel_47 : decode cX0_travel 47 = .ok (.iinc 4 1, 3) := by decide +kernel
theorem dX0_travel_50 : decode cX0_travel 50 = .ok (.iload 5, 2) := by decide +kernel
theorem dX0_travel_52 : decode cX0_travel 52 = .ok (.iload_n 2, 1) := by decide +kernel
theorem dX0_travel_53 : decode cX0_travel 53 = .ok (.ifCond .eq 7, 3) := by decide +kernel
theorem dX0_travel_56 : decode cX0_travel 56 = .ok (.iconst 1, 1) := by decide +kernel
theorem dX0_travel_57 : decode cX0_travel 57 = .ok (.goto 4, 3) := by decide +kernel
theorem dX0_travel_60 : decode cX0_travel 60 = .ok (.iconst (-1), 1) := by decide +kernel
theorem dX0_travel_61 : decode cX0_travel 61 = .ok (.iadd, 1) := by decide +kernel
theorem dX0_travel_62 : decode cX0_travel 62 = .ok (.istore 5, 2) := by decide +kernel
theorem dX0_travel_64 : decode cX0_travel 64 = .ok (.goto (-54), 3) := by decide +kernel
theorem dX0_travel_67 : decode cX0_travel 67 = .ok (.iload 4, 2) := by decide +kernel
theorem dX0_travel_69 : decode cX0_travel 69 = .ok (.ireturn, 1) := by decide +kernel
theorem dX0_wholeDay_0 : decode cX0_wholeDay 0 = .ok (.aload_n 0, 1) := by decide +kernel
theorem dX0_wholeDay_1 : decode cX0_wholeDay 1 = .ok (.invokevirtual 122, 3) := by decide +kernel
theorem dX0_wholeDay_4 : decode cX0_wholeDay 4 = .ok (.aload_n 0, 1) := by decide +kernel
theorem dX0_wholeDay_5 : decode cX0_wholeDay 5 = .ok (.iconst 0, 1) := by decide +kernel
theorem dX0_wholeDay_6 : decode cX0_wholeDay 6 = .ok (.putfield 119, 3) := by decide +kernel
theorem dX0_wholeDay_9 : decode cX0_wholeDay 9 = .ok (.iconst 0, 1) := by decide +kernel
theorem dX0_wholeDay_10 : decode cX0_wholeDay 10 = .ok (.istore_n 3, 1) := by decide +kernel
theorem dX0_wholeDay_11 : decode cX0_wholeDay 11 = .ok (.iconst 0, 1) := by decide +kernel
theorem dX0_wholeDay_12 : decode cX0_wholeDay 12 = .ok (.istore 4, 2) := by decide +kernel
theorem dX0_wholeDay_14 : decode cX0_wholeDay 14 = .ok (.iconst 0, 1) := by decide +kernel
theorem dX0_wholeDay_15 : decode cX0_wholeDay 15 = .ok (.istore 5, 2) := by decide +kernel
theorem dX0_wholeDay_17 : decode cX0_wholeDay 17 = .ok (.iload 4, 2) := by decide +kernel
theorem dX0_wholeDay_19 : decode cX0_wholeDay 19 = .ok (.iload 5, 2) := by decide +kernel
theorem dX0_wholeDay_21 : decode cX0_wholeDay 21 = .ok (.iadd, 1) := by decide +kernel
theorem dX0_wholeDay_22 : decode cX0_wholeDay 22 = .ok (.iload_n 1, 1) := by decide +kernel
theorem dX0_wholeDay_23 : decode cX0_wholeDay 23 = .ok (.iload_n 2, 1) := by decide +kernel
theorem dX0_wholeDay_24 : decode cX0_wholeDay 24 = .ok (.iadd, 1) := by decide +kernel
theorem dX0_wholeDay_25 : decode cX0_wholeDay 25 = .ok (.if_icmp .ge 76, 3) := by decide +kernel
theorem dX0_wholeDay_28 : decode cX0_wholeDay 28 = .ok (.aload_n 0, 1) := by decide +kernel
theorem dX0_wholeDay_29 : decode cX0_wholeDay 29 = .ok (.getfield 119, 3) := by decide +kernel
theorem dX0_wholeDay_32 : decode cX0_wholeDay 32 = .ok (.ifCond .ne 69, 3) := by decide +kernel
theorem dX0_wholeDay_35 : decode cX0_wholeDay 35 = .ok (.iload 4, 2) := by decide +kernel
theorem dX0_wholeDay_37 : decode cX0_wholeDay 37 = .ok (.iload_n 1, 1) := by decide +kernel
theorem dX0_wholeDay_38 : decode cX0_wholeDay 38 = .ok (.if_icmp .ge 20, 3) := by decide +kernel
theorem dX0_wholeDay_41 : decode cX0_wholeDay 41 = .ok (.iload 4, 2) := by decide +kernel
theorem dX0_wholeDay_43 : decode cX0_wholeDay 43 = .ok (.iload 5, 2) := by decide +kernel
theorem dX0_wholeDay_45 : decode cX0_wholeDay 45 = .ok (.if_icmp .le 9, 3) := by decide +kernel
theorem dX0_wholeDay_48 : decode cX0_wholeDay 48 = .ok (.iload 5, 2) := by decide +kernel
theorem dX0_wholeDay_50 : decode cX0_wholeDay 50 = .ok (.iload_n 2, 1) := by decide +kernel
theorem dX0_wholeDay_51 : decode cX0_wholeDay 51 = .ok (.if_icmp .lt 7, 3) := by decide +kernel
theorem dX0_wholeDay_54 : decode cX0_wholeDay 54 = .ok (.iconst 1, 1) := by decide +kernel
theorem dX0_wholeDay_55 : decode cX0_wholeDay 55 = .ok (.goto 4, 3) := by decide +kernel
theorem dX0_wholeDay_58 : decode cX0_wholeDay 58 = .ok (.iconst 0, 1) := by decide +kernel
theorem dX0_wholeDay_59 : decode cX0_wholeDay 59 = .ok (.istore 6, 2) := by decide +kernel
theorem dX0_wholeDay_61 : decode cX0_wholeDay 61 = .ok (.iload_n 3, 1) := by decide +kernel
theorem dX0_wholeDay_62 : decode cX0_wholeDay 62 = .ok (.aload_n 0, 1) := by decide +kernel
theorem dX0_wholeDay_63 : decode cX0_wholeDay 63 = .ok (.iload 6, 2) := by decide +kernel
theorem dX0_wholeDay_65 : decode cX0_wholeDay 65 = .ok (.ifCond .eq 7, 3) := by decide +kernel
theorem dX0_wholeDay_68 : decode cX0_wholeDay 68 = .ok (.iconst 0, 1) := by decide +kernel
theorem dX0_wholeDay_69 : decode cX0_wholeDay 69 = .ok (.goto 7, 3) := by decide +kernel
theorem dX0_wholeDay_72 : decode cX0_wholeDay 72 = .ok (.aload_n 0, 1) := by decide +kernel
theorem dX0_wholeDay_73 : decode cX0_wholeDay 73 = .ok (.getfield 51, 3) := by decide +kernel
theorem dX0_wholeDay_76 : decode cX0_wholeDay 76 = .ok (.iload 6, 2) := by decide +kernel
theorem dX0_wholeDay_78 : decode cX0_wholeDay 78 = .ok (.iconst 0, 1) := by decide +kernel
theorem dX0_wholeDay_79 : decode cX0_wholeDay 79 = .ok (.invokevirtual 125, 3) := by decide +kernel
theorem dX0_wholeDay_82 : decode cX0_wholeDay 82 = .ok (.iadd, 1) := by decide +kernel
theorem dX0_wholeDay_83 : decode cX0_wholeDay 83 = .ok (.istore_n 3, 1) := by decide +kernel
theorem dX0_wholeDay_84 : decode cX0_wholeDay 84 = .ok (.iload 6, 2) := by decide +kernel
theorem dX0_wholeDay_86 : decode cX0_wholeDay 86 = .ok (.ifCond .eq 9, 3) := by decide +kernel
theorem dX0_wholeDay_89 : decode cX0_wholeDay 89 = .ok (.iinc 4 1, 3) := by decide +kernel
theorem dX0_wholeDay_92 : decode cX0_wholeDay 92 = .ok (.goto 6, 3) := by decide +kernel
theorem dX0_wholeDay_95 : decode cX0_wholeDay 95 = .ok (.iinc 5 1, 3) := by decide +kernel
theorem dX0_wholeDay_98 : decode cX0_wholeDay 98 = .ok (.goto (-81), 3) := by decide +kernel
theorem dX0_wholeDay_101 : decode cX0_wholeDay 101 = .ok (.iload_n 3, 1) := by decide +kernel
theorem dX0_wholeDay_102 : decode cX0_wholeDay 102 = .ok (.ireturn, 1) := by decide +kernel
theorem dX0_loseAndGain_0 : decode cX0_loseAndGain 0 = .ok (.aload_n 0, 1) := by decide +kernel
theorem dX0_loseAndGain_1 : decode cX0_loseAndGain 1 = .ok (.getfield 51, 3) := by decide +kernel
theorem dX0_loseAndGain_4 : decode cX0_loseAndGain 4 = .ok (.istore_n 1, 1) := by decide +kernel
theorem dX0_loseAndGain_5 : decode cX0_loseAndGain 5 = .ok (.iload_n 1, 1) := by decide +kernel
theorem dX0_loseAndGain_6 : decode cX0_loseAndGain 6 = .ok (.ifCond .lt 37, 3) := by decide +kernel
theorem dX0_loseAndGain_9 : decode cX0_loseAndGain 9 = .ok (.aload_n 0, 1) := by decide +kernel
theorem dX0_loseAndGain_10 : decode cX0_loseAndGain 10 = .ok (.getfield 25, 3) := by decide +kernel
theorem dX0_loseAndGain_13 : decode cX0_loseAndGain 13 = .ok (.iload_n 1, 1) := by decide +kernel
theorem dX0_loseAndGain_14 : decode cX0_loseAndGain 14 = .ok (.aload_n 0, 1) := by decide +kernel
theorem dX0_loseAndGain_15 : decode cX0_loseAndGain 15 = .ok (.getfield 28, 3) := by decide +kernel
theorem dX0_loseAndGain_18 : decode cX0_loseAndGain 18 = .ok (.iload_n 1, 1) := by decide +kernel
theorem dX0_loseAndGain_19 : decode cX0_loseAndGain 19 = .ok (.iaload, 1) := by decide +kernel
theorem dX0_loseAndGain_20 : decode cX0_loseAndGain 20 = .ok (.aload_n 0, 1) := by decide +kernel
theorem dX0_loseAndGain_21 : decode cX0_loseAndGain 21 = .ok (.getfield 25, 3) := by decide +kernel
theorem dX0_loseAndGain_24 : decode cX0_loseAndGain 24 = .ok (.iload_n 1, 1) := by decide +kernel
theorem dX0_loseAndGain_25 : decode cX0_loseAndGain 25 = .ok (.iaload, 1) := by decide +kernel
theorem dX0_loseAndGain_26 : decode cX0_loseAndGain 26 = .ok (.aload_n 0, 1) := by decide +kernel
theorem dX0_loseAndGain_27 : decode cX0_loseAndGain 27 = .ok (.getfield 34, 3) := by decide +kernel
theorem dX0_loseAndGain_30 : decode cX0_loseAndGain 30 = .ok (.iload_n 1, 1) := by decide +kernel
theorem dX0_loseAndGain_31 : decode cX0_loseAndGain 31 = .ok (.iaload, 1) := by decide +kernel
theorem dX0_loseAndGain_32 : decode cX0_loseAndGain 32 = .ok (.isub, 1) := by decide +kernel
theorem dX0_loseAndGain_33 : decode cX0_loseAndGain 33 = .ok (.invokestatic 128, 3) := by decide +kernel
theorem dX0_loseAndGain_36 : decode cX0_loseAndGain 36 = .ok (.iastore, 1) := by decide +kernel
theorem dX0_loseAndGain_37 : decode cX0_loseAndGain 37 = .ok (.iinc 1 (-1), 3) := by decide +kernel
theorem dX0_loseAndGain_40 : decode cX0_loseAndGain 40 = .ok (.goto (-35), 3) := by decide +kernel
theorem dX0_loseAndGain_43 : decode cX0_loseAndGain 43 = .ok (.aload_n 0, 1) := by decide +kernel
theorem dX0_loseAndGain_44 : decode cX0_loseAndGain 44 = .ok (.getfield 25, 3) := by decide +kernel
theorem dX0_loseAndGain_47 : decode cX0_loseAndGain 47 = .ok (.aload_n 0, 1) := by decide +kernel
theorem dX0_loseAndGain_48 : decode cX0_loseAndGain 48 = .ok (.getfield 51, 3) := by decide +kernel
theorem dX0_loseAndGain_51 : decode cX0_loseAndGain 51 = .ok (.aload_n 0, 1) := by decide +kernel
theorem dX0_loseAndGain_52 : decode cX0_loseAndGain 52 = .ok (.getfield 31, 3) := by decide +kernel
theorem dX0_loseAndGain_55 : decode cX0_loseAndGain 55 = .ok (.aload_n 0, 1) := by decide +kernel
theorem dX0_loseAndGain_56 : decode cX0_loseAndGain 56 = .ok (.getfield 51, 3) := by decide +kernel
theorem dX0_loseAndGain_59 : decode cX0_loseAndGain 59 = .ok (.iaload, 1) := by decide +kernel
theorem dX0_loseAndGain_60 : decode cX0_loseAndGain 60 = .ok (.aload_n 0, 1) := by decide +kernel
theorem dX0_loseAndGain_61 : decode cX0_loseAndGain 61 = .ok (.getfield 25, 3) := by decide +kernel
theorem dX0_loseAndGain_64 : decode cX0_loseAndGain 64 = .ok (.aload_n 0, 1) := by decide +kernel
theorem dX0_loseAndGain_65 : decode cX0_loseAndGain 65 = .ok (.getfield 51, 3) := by decide +kernel
theorem dX0_loseAndGain_68 : decode cX0_loseAndGain 68 = .ok (.iaload, 1) := by decide +kernel
theorem dX0_loseAndGain_69 : decode cX0_loseAndGain 69 = .ok (.aload_n 0, 1) := by decide +kernel
theorem dX0_loseAndGain_70 : decode cX0_loseAndGain 70 = .ok (.getfield 55, 3) := by decide +kernel
theorem dX0_loseAndGain_73 : decode cX0_loseAndGain 73 = .ok (.iadd, 1) := by decide +kernel
theorem dX0_loseAndGain_74 : decode cX0_loseAndGain 74 = .ok (.invokestatic 134, 3) := by decide +kernel
theorem dX0_loseAndGain_77 : decode cX0_loseAndGain 77 = .ok (.iastore, 1) := by decide +kernel
theorem dX0_loseAndGain_78 : decode cX0_loseAndGain 78 = .ok (.return_, 1) := by decide +kernel
theorem dX0_summitWater_0 : decode cX0_summitWater 0 = .ok (.aload_n 0, 1) := by decide +kernel
theorem dX0_summitWater_1 : decode cX0_summitWater 1 = .ok (.getfield 25, 3) := by decide +kernel
theorem dX0_summitWater_4 : decode cX0_summitWater 4 = .ok (.aload_n 0, 1) := by decide +kernel
theorem dX0_summitWater_5 : decode cX0_summitWater 5 = .ok (.getfield 51, 3) := by decide +kernel
theorem dX0_summitWater_8 : decode cX0_summitWater 8 = .ok (.iaload, 1) := by decide +kernel
theorem dX0_summitWater_9 : decode cX0_summitWater 9 = .ok (.ireturn, 1) := by decide +kernel
theorem dX0_allWater_0 : decode cX0_allWater 0 = .ok (.iconst 0, 1) := by decide +kernel
theorem dX0_allWater_1 : decode cX0_allWater 1 = .ok (.istore_n 1, 1) := by decide +kernel
theorem dX0_allWater_2 : decode cX0_allWater 2 = .ok (.iconst 0, 1) := by decide +kernel
theorem dX0_allWater_3 : decode cX0_allWater 3 = .ok (.istore_n 2, 1) := by decide +kernel
theorem dX0_allWater_4 : decode cX0_allWater 4 = .ok (.iload_n 2, 1) := by decide +kernel
theorem dX0_allWater_5 : decode cX0_allWater 5 = .ok (.aload_n 0, 1) := by decide +kernel
theorem dX0_allWater_6 : decode cX0_allWater 6 = .ok (.getfield 51, 3) := by decide +kernel
theorem dX0_allWater_9 : decode cX0_allWater 9 = .ok (.if_icmp .gt 18, 3) := by decide +kernel
theorem dX0_allWater_12 : decode cX0_allWater 12 = .ok (.iload_n 1, 1) := by decide +kernel
theorem dX0_allWater_13 : decode cX0_allWater 13 = .ok (.aload_n 0, 1) := by decide +kernel
theorem dX0_allWater_14 : decode cX0_allWater 14 = .ok (.getfield 25, 3) := by decide +kernel
theorem dX0_allWater_17 : decode cX0_allWater 17 = .ok (.iload_n 2, 1) := by decide +kernel
theorem dX0_allWater_18 : decode cX0_allWater 18 = .ok (.iaload, 1) := by decide +kernel
theorem dX0_allWater_19 : decode cX0_allWater 19 = .ok (.iadd, 1) := by decide +kernel
theorem dX0_allWater_20 : decode cX0_allWater 20 = .ok (.istore_n 1, 1) := by decide +kernel
theorem dX0_allWater_21 : decode cX0_allWater 21 = .ok (.iinc 2 1, 3) := by decide +kernel
theorem dX0_allWater_24 : decode cX0_allWater 24 = .ok (.goto (-20), 3) := by decide +kernel
theorem dX0_allWater_27 : decode cX0_allWater 27 = .ok (.iconst 0, 1) := by decide +kernel
theorem dX0_allWater_28 : decode cX0_allWater 28 = .ok (.istore_n 2, 1) := by decide +kernel
theorem dX0_allWater_29 : decode cX0_allWater 29 = .ok (.iload_n 2, 1) := by decide +kernel
theorem dX0_allWater_30 : decode cX0_allWater 30 = .ok (.aload_n 0, 1) := by decide +kernel
theorem dX0_allWater_31 : decode cX0_allWater 31 = .ok (.getfield 51, 3) := by decide +kernel
theorem dX0_allWater_34 : decode cX0_allWater 34 = .ok (.if_icmp .ge 38, 3) := by decide +kernel
theorem dX0_allWater_37 : decode cX0_allWater 37 = .ok (.iload_n 1, 1) := by decide +kernel
theorem dX0_allWater_38 : decode cX0_allWater 38 = .ok (.aload_n 0, 1) := by decide +kernel
theorem dX0_allWater_39 : decode cX0_allWater 39 = .ok (.getfield 18, 3) := by decide +kernel
theorem dX0_allWater_42 : decode cX0_allWater 42 = .ok (.iload_n 2, 1) := by decide +kernel
theorem dX0_allWater_43 : decode cX0_allWater 43 = .ok (.iaload, 1) := by decide +kernel
theorem dX0_allWater_44 : decode cX0_allWater 44 = .ok (.aload_n 0, 1) := by decide +kernel
theorem dX0_allWater_45 : decode cX0_allWater 45 = .ok (.getfield 21, 3) := by decide +kernel
theorem dX0_allWater_48 : decode cX0_allWater 48 = .ok (.iload_n 2, 1) := by decide +kernel
theorem dX0_allWater_49 : decode cX0_allWater 49 = .ok (.baload, 1) := by decide +kernel
theorem dX0_allWater_50 : decode cX0_allWater 50 = .ok (.ifCond .eq 12, 3) := by decide +kernel
theorem dX0_allWater_53 : decode cX0_allWater 53 = .ok (.aload_n 0, 1) := by decide +kernel
theorem dX0_allWater_54 : decode cX0_allWater 54 = .ok (.getfield 9, 3) := by decide +kernel
theorem dX0_allWater_57 : decode cX0_allWater 57 = .ok (.iload_n 2, 1) := by decide +kernel
theorem dX0_allWater_58 : decode cX0_allWater 58 = .ok (.iaload, 1) := by decide +kernel
theorem dX0_allWater_59 : decode cX0_allWater 59 = .ok (.goto 4, 3) := by decide +kernel
theorem dX0_allWater_62 : decode cX0_allWater 62 = .ok (.iconst 0, 1) := by decide +kernel
theorem dX0_allWater_63 : decode cX0_allWater 63 = .ok (.iadd, 1) := by decide +kernel
theorem dX0_allWater_64 : decode cX0_allWater 64 = .ok (.iadd, 1) := by decide +kernel
theorem dX0_allWater_65 : decode cX0_allWater 65 = .ok (.istore_n 1, 1) := by decide +kernel
theorem dX0_allWater_66 : decode cX0_allWater 66 = .ok (.iinc 2 1, 3) := by decide +kernel
theorem dX0_allWater_69 : decode cX0_allWater 69 = .ok (.goto (-40), 3) := by decide +kernel
theorem dX0_allWater_72 : decode cX0_allWater 72 = .ok (.iload_n 1, 1) := by decide +kernel
theorem dX0_allWater_73 : decode cX0_allWater 73 = .ok (.ireturn, 1) := by decide +kernel
theorem dX0_leastLevelOver_0 : decode cX0_leastLevelOver 0 = .ok (.iconst (-1), 1) := by decide +kernel
theorem dX0_leastLevelOver_1 : decode cX0_leastLevelOver 1 = .ok (.istore_n 2, 1) := by decide +kernel
theorem dX0_leastLevelOver_2 : decode cX0_leastLevelOver 2 = .ok (.iconst 0, 1) := by decide +kernel
theorem dX0_leastLevelOver_3 : decode cX0_leastLevelOver 3 = .ok (.istore_n 3, 1) := by decide +kernel
theorem dX0_leastLevelOver_4 : decode cX0_leastLevelOver 4 = .ok (.iload_n 3, 1) := by decide +kernel
theorem dX0_leastLevelOver_5 : decode cX0_leastLevelOver 5 = .ok (.aload_n 0, 1) := by decide +kernel
theorem dX0_leastLevelOver_6 : decode cX0_leastLevelOver 6 = .ok (.getfield 51, 3) := by decide +kernel
theorem dX0_leastLevelOver_9 : decode cX0_leastLevelOver 9 = .ok (.if_icmp .gt 40, 3) := by decide +kernel
theorem dX0_leastLevelOver_12 : decode cX0_leastLevelOver 12 = .ok (.aload_n 0, 1) := by decide +kernel
theorem dX0_leastLevelOver_13 : decode cX0_leastLevelOver 13 = .ok (.getfield 25, 3) := by decide +kernel
theorem dX0_leastLevelOver_16 : decode cX0_leastLevelOver 16 = .ok (.iload_n 3, 1) := by decide +kernel
theorem dX0_leastLevelOver_17 : decode cX0_leastLevelOver 17 = .ok (.iaload, 1) := by decide +kernel
theorem dX0_leastLevelOver_18 : decode cX0_leastLevelOver 18 = .ok (.iload_n 1, 1) := by decide +kernel
theorem dX0_leastLevelOver_19 : decode cX0_leastLevelOver 19 = .ok (.if_icmp .le 24, 3) := by decide +kernel
theorem dX0_leastLevelOver_22 : decode cX0_leastLevelOver 22 = .ok (.iload_n 2, 1) := by decide +kernel
theorem dX0_leastLevelOver_23 : decode cX0_leastLevelOver 23 = .ok (.ifCond .lt 13, 3) := by decide +kernel
theorem dX0_leastLevelOver_26 : decode cX0_leastLevelOver 26 = .ok (.aload_n 0, 1) := by decide +kernel
theorem dX0_leastLevelOver_27 : decode cX0_leastLevelOver 27 = .ok (.getfield 25, 3) := by decide +kernel
theorem dX0_leastLevelOver_30 : decode cX0_leastLevelOver 30 = .ok (.iload_n 3, 1) := by decide +kernel
theorem dX0_leastLevelOver_31 : decode cX0_leastLevelOver 31 = .ok (.iaload, 1) := by decide +kernel
theorem dX0_leastLevelOver_32 : decode cX0_leastLevelOver 32 = .ok (.iload_n 2, 1) := by decide +kernel
theorem dX0_leastLevelOver_33 : decode cX0_leastLevelOver 33 = .ok (.if_icmp .ge 10, 3) := by decide +kernel
theorem dX0_leastLevelOver_36 : decode cX0_leastLevelOver 36 = .ok (.aload_n 0, 1) := by decide +kernel
theorem dX0_leastLevelOver_37 : decode cX0_leastLevelOver 37 = .ok (.getfield 25, 3) := by decide +kernel
theorem dX0_leastLevelOver_40 : decode cX0_leastLevelOver 40 = .ok (.iload_n 3, 1) := by decide +kernel
theorem dX0_leastLevelOver_41 : decode cX0_leastLevelOver 41 = .ok (.iaload, 1) := by decide +kernel
theorem dX0_leastLevelOver_42 : decode cX0_leastLevelOver 42 = .ok (.istore_n 2, 1) := by decide +kernel
theorem dX0_leastLevelOver_43 : decode cX0_leastLevelOver 43 = .ok (.iinc 3 1, 3) := by decide +kernel
theorem dX0_leastLevelOver_46 : decode cX0_leastLevelOver 46 = .ok (.goto (-42), 3) := by decide +kernel
theorem dX0_leastLevelOver_49 : decode cX0_leastLevelOver 49 = .ok (.iload_n 2, 1) := by decide +kernel
theorem dX0_leastLevelOver_50 : decode cX0_leastLevelOver 50 = .ok (.ireturn, 1) := by decide +kernel
theorem dX0_fullLocks_0 : decode cX0_fullLocks 0 = .ok (.iconst 0, 1) := by decide +kernel
theorem dX0_fullLocks_1 : decode cX0_fullLocks 1 = .ok (.istore_n 1, 1) := by decide +kernel
theorem dX0_fullLocks_2 : decode cX0_fullLocks 2 = .ok (.iconst 0, 1) := by decide +kernel
theorem dX0_fullLocks_3 : decode cX0_fullLocks 3 = .ok (.istore_n 2, 1) := by decide +kernel
theorem dX0_fullLocks_4 : decode cX0_fullLocks 4 = .ok (.iload_n 2, 1) := by decide +kernel
theorem dX0_fullLocks_5 : decode cX0_fullLocks 5 = .ok (.aload_n 0, 1) := by decide +kernel
theorem dX0_fullLocks_6 : decode cX0_fullLocks 6 = .ok (.getfield 51, 3) := by decide +kernel
theorem dX0_fullLocks_9 : decode cX0_fullLocks 9 = .ok (.if_icmp .ge 21, 3) := by decide +kernel
theorem dX0_fullLocks_12 : decode cX0_fullLocks 12 = .ok (.aload_n 0, 1) := by decide +kernel
theorem dX0_fullLocks_13 : decode cX0_fullLocks 13 = .ok (.getfield 21, 3) := by decide +kernel
theorem dX0_fullLocks_16 : decode cX0_fullLocks 16 = .ok (.iload_n 2, 1) := by decide +kernel
theorem dX0_fullLocks_17 : decode cX0_fullLocks 17 = .ok (.baload, 1) := by decide +kernel
theorem dX0_fullLocks_18 : decode cX0_fullLocks 18 = .ok (.ifCond .eq 6, 3) := by decide +kernel
theorem dX0_fullLocks_21 : decode cX0_fullLocks 21 = .ok (.iinc 1 1, 3) := by decide +kernel
theorem dX0_fullLocks_24 : decode cX0_fullLocks 24 = .ok (.iinc 2 1, 3) := by decide +kernel
theorem dX0_fullLocks_27 : decode cX0_fullLocks 27 = .ok (.goto (-23), 3) := by decide +kernel
theorem dX0_fullLocks_30 : decode cX0_fullLocks 30 = .ok (.iload_n 1, 1) := by decide +kernel
theorem dX0_fullLocks_31 : decode cX0_fullLocks 31 = .ok (.ireturn, 1) := by decide +kernel
theorem dX1_init_0 : decode cX1_init 0 = .ok (.aload_n 0, 1) := by decide +kernel
theorem dX1_init_1 : decode cX1_init 1 = .ok (.invokespecial 3, 3) := by decide +kernel
theorem dX1_init_4 : decode cX1_init 4 = .ok (.return_, 1) := by decide +kernel
theorem dX1_number_0 : decode cX1_number 0 = .ok (.aload_n 0, 1) := by decide +kernel
theorem dX1_number_1 : decode cX1_number 1 = .ok (.getfield 9, 3) := by decide +kernel
theorem dX1_number_4 : decode cX1_number 4 = .ok (.ifCond .ne 6, 3) := by decide +kernel
theorem dX1_number_7 : decode cX1_number 7 = .ok (.bipush (-2), 2) := by decide +kernel
theorem dX1_number_9 : decode cX1_number 9 = .ok (.ireturn, 1) := by decide +kernel
theorem dX1_number_10 : decode cX1_number 10 = .ok (.iload_n 1, 1) := by decide +kernel
theorem dX1_number_11 : decode cX1_number 11 = .ok (.tableswitch 40 0 2 #[25, 30, 35], 25) := by decide +kernel
theorem dX1_number_36 : decode cX1_number 36 = .ok (.aload_n 0, 1) := by decide +kernel
theorem dX1_number_37 : decode cX1_number 37 = .ok (.getfield 15, 3) := by decide +kernel
theorem dX1_number_40 : decode cX1_number 40 = .ok (.ireturn, 1) := by decide +kernel
theorem dX1_number_41 : decode cX1_number 41 = .ok (.aload_n 0, 1) := by decide +kernel
theorem dX1_number_42 : decode cX1_number 42 = .ok (.getfield 19, 3) := by decide +kernel
theorem dX1_number_45 : decode cX1_number 45 = .ok (.ireturn, 1) := by decide +kernel
theorem dX1_number_46 : decode cX1_number 46 = .ok (.aload_n 0, 1) := by decide +kernel
theorem dX1_number_47 : decode cX1_number 47 = .ok (.getfield 22, 3) := by decide +kernel
theorem dX1_number_50 : decode cX1_number 50 = .ok (.ireturn, 1) := by decide +kernel
theorem dX1_number_51 : decode cX1_number 51 = .ok (.aload_n 0, 1) := by decide +kernel
theorem dX1_number_52 : decode cX1_number 52 = .ok (.getfield 25, 3) := by decide +kernel
theorem dX1_number_55 : decode cX1_number 55 = .ok (.ireturn, 1) := by decide +kernel
theorem dX2_init_0 : decode cX2_init 0 = .ok (.aload_n 0, 1) := by decide +kernel
theorem dX2_init_1 : decode cX2_init 1 = .ok (.invokespecial 3, 3) := by decide +kernel
theorem dX2_init_4 : decode cX2_init 4 = .ok (.aload_n 0, 1) := by decide +kernel
theorem dX2_init_5 : decode cX2_init 5 = .ok (.bipush 22, 2) := by decide +kernel
theorem dX2_init_7 : decode cX2_init 7 = .ok (.newarray .int, 2) := by decide +kernel
theorem dX2_init_9 : decode cX2_init 9 = .ok (.putfield 11, 3) := by decide +kernel
theorem dX2_init_12 : decode cX2_init 12 = .ok (.aload_n 0, 1) := by decide +kernel
theorem dX2_init_13 : decode cX2_init 13 = .ok (.bipush 22, 2) := by decide +kernel
theorem dX2_init_15 : decode cX2_init 15 = .ok (.newarray .int, 2) := by decide +kernel
theorem dX2_init_17 : decode cX2_init 17 = .ok (.putfield 15, 3) := by decide +kernel
theorem dX2_init_20 : decode cX2_init 20 = .ok (.aload_n 0, 1) := by decide +kernel
theorem dX2_init_21 : decode cX2_init 21 = .ok (.bipush 22, 2) := by decide +kernel
theorem dX2_init_23 : decode cX2_init 23 = .ok (.newarray .int, 2) := by decide +kernel
theorem dX2_init_25 : decode cX2_init 25 = .ok (.putfield 18, 3) := by decide +kernel
theorem dX2_init_28 : decode cX2_init 28 = .ok (.aload_n 0, 1) := by decide +kernel
theorem dX2_init_29 : decode cX2_init 29 = .ok (.bipush 22, 2) := by decide +kernel
theorem dX2_init_31 : decode cX2_init 31 = .ok (.newarray .boolean, 2) := by decide +kernel
theorem dX2_init_33 : decode cX2_init 33 = .ok (.putfield 21, 3) := by decide +kernel
theorem dX2_init_36 : decode cX2_init 36 = .ok (.aload_n 0, 1) := by decide +kernel
theorem dX2_init_37 : decode cX2_init 37 = .ok (.bipush 22, 2) := by decide +kernel
theorem dX2_init_39 : decode cX2_init 39 = .ok (.newarray .int, 2) := by decide +kernel
theorem dX2_init_41 : decode cX2_init 41 = .ok (.putfield 25, 3) := by decide +kernel
theorem dX2_init_44 : decode cX2_init 44 = .ok (.return_, 1) := by decide +kernel
theorem dX2_copyFrom_0 : decode cX2_copyFrom 0 = .ok (.aload_n 0, 1) := by decide +kernel
theorem dX2_copyFrom_1 : decode cX2_copyFrom 1 = .ok (.aload_n 1, 1) := by decide +kernel
theorem dX2_copyFrom_2 : decode cX2_copyFrom 2 = .ok (.getfield 28, 3) := by decide +kernel
theorem dX2_copyFrom_5 : decode cX2_copyFrom 5 = .ok (.putfield 28, 3) := by decide +kernel
theorem dX2_copyFrom_8 : decode cX2_copyFrom 8 = .ok (.aload_n 1, 1) := by decide +kernel
theorem dX2_copyFrom_9 : decode cX2_copyFrom 9 = .ok (.getfield 11, 3) := by decide +kernel
theorem dX2_copyFrom_12 : decode cX2_copyFrom 12 = .ok (.iconst 0, 1) := by decide +kernel
theorem dX2_copyFrom_13 : decode cX2_copyFrom 13 = .ok (.aload_n 0, 1) := by decide +kernel
theorem dX2_copyFrom_14 : decode cX2_copyFrom 14 = .ok (.getfield 11, 3) := by decide +kernel
theorem dX2_copyFrom_17 : decode cX2_copyFrom 17 = .ok (.iconst 0, 1) := by decide +kernel
theorem dX2_copyFrom_18 : decode cX2_copyFrom 18 = .ok (.bipush 22, 2) := by decide +kernel
theorem dX2_copyFrom_20 : decode cX2_copyFrom 20 = .ok (.invokestatic 32, 3) := by decide +kernel
theorem dX2_copyFrom_23 : decode cX2_copyFrom 23 = .ok (.aload_n 1, 1) := by decide +kernel
theorem dX2_copyFrom_24 : decode cX2_copyFrom 24 = .ok (.getfield 15, 3) := by decide +kernel
theorem dX2_copyFrom_27 : decode cX2_copyFrom 27 = .ok (.iconst 0, 1) := by decide +kernel
theorem dX2_copyFrom_28 : decode cX2_copyFrom 28 = .ok (.aload_n 0, 1) := by decide +kernel
theorem dX2_copyFrom_29 : decode cX2_copyFrom 29 = .ok (.getfield 15, 3) := by decide +kernel
theorem dX2_copyFrom_32 : decode cX2_copyFrom 32 = .ok (.iconst 0, 1) := by decide +kernel
theorem dX2_copyFrom_33 : decode cX2_copyFrom 33 = .ok (.bipush 22, 2) := by decide +kernel
theorem dX2_copyFrom_35 : decode cX2_copyFrom 35 = .ok (.invokestatic 32, 3) := by decide +kernel
theorem dX2_copyFrom_38 : decode cX2_copyFrom 38 = .ok (.aload_n 1, 1) := by decide +kernel
theorem dX2_copyFrom_39 : decode cX2_copyFrom 39 = .ok (.getfield 18, 3) := by decide +kernel
theorem dX2_copyFrom_42 : decode cX2_copyFrom 42 = .ok (.iconst 0, 1) := by decide +kernel
theorem dX2_copyFrom_43 : decode cX2_copyFrom 43 = .ok (.aload_n 0, 1) := by decide +kernel
theorem dX2_copyFrom_44 : decode cX2_copyFrom 44 = .ok (.getfield 18, 3) := by decide +kernel
theorem dX2_copyFrom_47 : decode cX2_copyFrom 47 = .ok (.iconst 0, 1) := by decide +kernel
theorem dX2_copyFrom_48 : decode cX2_copyFrom 48 = .ok (.bipush 22, 2) := by decide +kernel
theorem dX2_copyFrom_50 : decode cX2_copyFrom 50 = .ok (.invokestatic 32, 3) := by decide +kernel
theorem dX2_copyFrom_53 : decode cX2_copyFrom 53 = .ok (.aload_n 1, 1) := by decide +kernel
theorem dX2_copyFrom_54 : decode cX2_copyFrom 54 = .ok (.getfield 25, 3) := by decide +kernel
theorem dX2_copyFrom_57 : decode cX2_copyFrom 57 = .ok (.iconst 0, 1) := by decide +kernel
theorem dX2_copyFrom_58 : decode cX2_copyFrom 58 = .ok (.aload_n 0, 1) := by decide +kernel
theorem dX2_copyFrom_59 : decode cX2_copyFrom 59 = .ok (.getfield 25, 3) := by decide +kernel
theorem dX2_copyFrom_62 : decode cX2_copyFrom 62 = .ok (.iconst 0, 1) := by decide +kernel
theorem dX2_copyFrom_63 : decode cX2_copyFrom 63 = .ok (.bipush 22, 2) := by decide +kernel
theorem dX2_copyFrom_65 : decode cX2_copyFrom 65 = .ok (.invokestatic 32, 3) := by decide +kernel
theorem dX2_copyFrom_68 : decode cX2_copyFrom 68 = .ok (.iconst 0, 1) := by decide +kernel
theorem dX2_copyFrom_69 : decode cX2_copyFrom 69 = .ok (.istore_n 2, 1) := by decide +kernel
theorem dX2_copyFrom_70 : decode cX2_copyFrom 70 = .ok (.iload_n 2, 1) := by decide +kernel
theorem dX2_copyFrom_71 : decode cX2_copyFrom 71 = .ok (.bipush 22, 2) := by decide +kernel
theorem dX2_copyFrom_73 : decode cX2_copyFrom 73 = .ok (.if_icmp .ge 21, 3) := by decide +kernel
theorem dX2_copyFrom_76 : decode cX2_copyFrom 76 = .ok (.aload_n 0, 1) := by decide +kernel
theorem dX2_copyFrom_77 : decode cX2_copyFrom 77 = .ok (.getfield 21, 3) := by decide +kernel
theorem dX2_copyFrom_80 : decode cX2_copyFrom 80 = .ok (.iload_n 2, 1) := by decide +kernel
theorem dX2_copyFrom_81 : decode cX2_copyFrom 81 = .ok (.aload_n 1, 1) := by decide +kernel
theorem dX2_copyFrom_82 : decode cX2_copyFrom 82 = .ok (.getfield 21, 3) := by decide +kernel
theorem dX2_copyFrom_85 : decode cX2_copyFrom 85 = .ok (.iload_n 2, 1) := by decide +kernel
theorem dX2_copyFrom_86 : decode cX2_copyFrom 86 = .ok (.baload, 1) := by decide +kernel
theorem dX2_copyFrom_87 : decode cX2_copyFrom 87 = .ok (.bastore, 1) := by decide +kernel
theorem dX2_copyFrom_88 : decode cX2_copyFrom 88 = .ok (.iinc 2 1, 3) := by decide +kernel
theorem dX2_copyFrom_91 : decode cX2_copyFrom 91 = .ok (.goto (-21), 3) := by decide +kernel
theorem dX2_copyFrom_94 : decode cX2_copyFrom 94 = .ok (.return_, 1) := by decide +kernel
theorem dX2_has_0 : decode cX2_has 0 = .ok (.iload_n 1, 1) := by decide +kernel
theorem dX2_has_1 : decode cX2_has 1 = .ok (.ifCond .lt 15, 3) := by decide +kernel
theorem dX2_has_4 : decode cX2_has 4 = .ok (.iload_n 1, 1) := by decide +kernel
theorem dX2_has_5 : decode cX2_has 5 = .ok (.aload_n 0, 1) := by decide +kernel
theorem dX2_has_6 : decode cX2_has 6 = .ok (.getfield 28, 3) := by decide +kernel
theorem dX2_has_9 : decode cX2_has 9 = .ok (.if_icmp .ge 7, 3) := by decide +kernel
theorem dX2_has_12 : decode cX2_has 12 = .ok (.iconst 1, 1) := by decide +kernel
theorem dX2_has_13 : decode cX2_has 13 = .ok (.goto 4, 3) := by decide +kernel
theorem dX2_has_16 : decode cX2_has 16 = .ok (.iconst 0, 1) := by decide +kernel
theorem dX2_has_17 : decode cX2_has 17 = .ok (.ireturn, 1) := by decide +kernel
theorem dX2_numberOf_0 : decode cX2_numberOf 0 = .ok (.iconst 0, 1) := by decide +kernel
theorem dX2_numberOf_1 : decode cX2_numberOf 1 = .ok (.istore_n 2, 1) := by decide +kernel
theorem dX2_numberOf_2 : decode cX2_numberOf 2 = .ok (.iload_n 2, 1) := by decide +kernel
theorem dX2_numberOf_3 : decode cX2_numberOf 3 = .ok (.aload_n 0, 1) := by decide +kernel
theorem dX2_numberOf_4 : decode cX2_numberOf 4 = .ok (.getfield 28, 3) := by decide +kernel
theorem dX2_numberOf_7 : decode cX2_numberOf 7 = .ok (.if_icmp .ge 21, 3) := by decide +kernel
theorem dX2_numberOf_10 : decode cX2_numberOf 10 = .ok (.aload_n 0, 1) := by decide +kernel
theorem dX2_numberOf_11 : decode cX2_numberOf 11 = .ok (.getfield 11, 3) := by decide +kernel
theorem dX2_numberOf_14 : decode cX2_numberOf 14 = .ok (.iload_n 2, 1) := by decide +kernel
theorem dX2_numberOf_15 : decode cX2_numberOf 15 = .ok (.iaload, 1) := by decide +kernel
theorem dX2_numberOf_16 : decode cX2_numberOf 16 = .ok (.iload_n 1, 1) := by decide +kernel
theorem dX2_numberOf_17 : decode cX2_numberOf 17 = .ok (.if_icmp .ne 5, 3) := by decide +kernel
theorem dX2_numberOf_20 : decode cX2_numberOf 20 = .ok (.iload_n 2, 1) := by decide +kernel
theorem dX2_numberOf_21 : decode cX2_numberOf 21 = .ok (.ireturn, 1) := by decide +kernel
theorem dX2_numberOf_22 : decode cX2_numberOf 22 = .ok (.iinc 2 1, 3) := by decide +kernel
theorem dX2_numberOf_25 : decode cX2_numberOf 25 = .ok (.goto (-23), 3) := by decide +kernel
theorem dX2_numberOf_28 : decode cX2_numberOf 28 = .ok (.bipush (-2), 2) := by decide +kernel
theorem dX2_numberOf_30 : decode cX2_numberOf 30 = .ok (.ireturn, 1) := by decide +kernel
theorem dX2_put_0 : decode cX2_put 0 = .ok (.aload_n 0, 1) := by decide +kernel
theorem dX2_put_1 : decode cX2_put 1 = .ok (.aload_n 1, 1) := by decide +kernel
theorem dX2_put_2 : decode cX2_put 2 = .ok (.getfield 38, 3) := by decide +kernel
theorem dX2_put_5 : decode cX2_put 5 = .ok (.invokevirtual 42, 3) := by decide +kernel
theorem dX2_put_8 : decode cX2_put 8 = .ok (.istore_n 2, 1) := by decide +kernel
theorem dX2_put_9 : decode cX2_put 9 = .ok (.iload_n 2, 1) := by decide +kernel
theorem dX2_put_10 : decode cX2_put 10 = .ok (.ifCond .ge 4, 3) := by decide +kernel
theorem dX2_put_13 : decode cX2_put 13 = .ok (.return_, 1) := by decide +kernel
theorem dX2_put_14 : decode cX2_put 14 = .ok (.aload_n 0, 1) := by decide +kernel
theorem dX2_put_15 : decode cX2_put 15 = .ok (.getfield 11, 3) := by decide +kernel
theorem dX2_put_18 : decode cX2_put 18 = .ok (.iload_n 2, 1) := by decide +kernel
theorem dX2_put_19 : decode cX2_put 19 = .ok (.aload_n 1, 1) := by decide +kernel
theorem dX2_put_20 : decode cX2_put 20 = .ok (.getfield 38, 3) := by decide +kernel
theorem dX2_put_23 : decode cX2_put 23 = .ok (.iastore, 1) := by decide +kernel
theorem dX2_put_24 : decode cX2_put 24 = .ok (.aload_n 0, 1) := by decide +kernel
theorem dX2_put_25 : decode cX2_put 25 = .ok (.getfield 15, 3) := by decide +kernel
theorem dX2_put_28 : decode cX2_put 28 = .ok (.iload_n 2, 1) := by decide +kernel
theorem dX2_put_29 : decode cX2_put 29 = .ok (.aload_n 1, 1) := by decide +kernel
theorem dX2_put_30 : decode cX2_put 30 = .ok (.getfield 46, 3) := by decide +kernel
theorem dX2_put_33 : decode cX2_put 33 = .ok (.iastore, 1) := by decide +kernel
theorem dX2_put_34 : decode cX2_put 34 = .ok (.aload_n 0, 1) := by decide +kernel
theorem dX2_put_35 : decode cX2_put 35 = .ok (.getfield 18, 3) := by decide +kernel
theorem dX2_put_38 : decode cX2_put 38 = .ok (.iload_n 2, 1) := by decide +kernel
theorem dX2_put_39 : decode cX2_put 39 = .ok (.aload_n 1, 1) := by decide +kernel
theorem dX2_put_40 : decode cX2_put 40 = .ok (.getfield 48, 3) := by decide +kernel
theorem dX2_put_43 : decode cX2_put 43 = .ok (.iastore, 1) := by decide +kernel
theorem dX2_put_44 : decode cX2_put 44 = .ok (.aload_n 0, 1) := by decide +kernel
theorem dX2_put_45 : decode cX2_put 45 = .ok (.getfield 21, 3) := by decide +kernel
theorem dX2_put_48 : decode cX2_put 48 = .ok (.iload_n 2, 1) := by decide +kernel
theorem dX2_put_49 : decode cX2_put 49 = .ok (.aload_n 1, 1) := by decide +kernel
theorem dX2_put_50 : decode cX2_put 50 = .ok (.getfield 50, 3) := by decide +kernel
theorem dX2_put_53 : decode cX2_put 53 = .ok (.bastore, 1) := by decide +kernel
theorem dX2_put_54 : decode cX2_put 54 = .ok (.aload_n 0, 1) := by decide +kernel
theorem dX2_put_55 : decode cX2_put 55 = .ok (.getfield 25, 3) := by decide +kernel
theorem dX2_put_58 : decode cX2_put 58 = .ok (.iload_n 2, 1) := by decide +kernel
theorem dX2_put_59 : decode cX2_put 59 = .ok (.aload_n 1, 1) := by decide +kernel
theorem dX2_put_60 : decode cX2_put 60 = .ok (.getfield 53, 3) := by decide +kernel
theorem dX2_put_63 : decode cX2_put 63 = .ok (.iastore, 1) := by decide +kernel
theorem dX2_put_64 : decode cX2_put 64 = .ok (.return_, 1) := by decide +kernel
theorem dX2_placeFor_0 : decode cX2_placeFor 0 = .ok (.iconst 0, 1) := by decide +kernel
theorem dX2_placeFor_1 : decode cX2_placeFor 1 = .ok (.istore_n 2, 1) := by decide +kernel
theorem dX2_placeFor_2 : decode cX2_placeFor 2 = .ok (.iload_n 2, 1) := by decide +kernel
theorem dX2_placeFor_3 : decode cX2_placeFor 3 = .ok (.aload_n 0, 1) := by decide +kernel
theorem dX2_placeFor_4 : decode cX2_placeFor 4 = .ok (.getfield 28, 3) := by decide +kernel
theorem dX2_placeFor_7 : decode cX2_placeFor 7 = .ok (.if_icmp .ge 19, 3) := by decide +kernel
theorem dX2_placeFor_10 : decode cX2_placeFor 10 = .ok (.aload_n 0, 1) := by decide +kernel
theorem dX2_placeFor_11 : decode cX2_placeFor 11 = .ok (.getfield 11, 3) := by decide +kernel
theorem dX2_placeFor_14 : decode cX2_placeFor 14 = .ok (.iload_n 2, 1) := by decide +kernel
theorem dX2_placeFor_15 : decode cX2_placeFor 15 = .ok (.iaload, 1) := by decide +kernel
theorem dX2_placeFor_16 : decode cX2_placeFor 16 = .ok (.iload_n 1, 1) := by decide +kernel
theorem dX2_placeFor_17 : decode cX2_placeFor 17 = .ok (.if_icmp .ge 9, 3) := by decide +kernel
theorem dX2_placeFor_20 : decode cX2_placeFor 20 = .ok (.iinc 2 1, 3) := by decide +kernel
theorem dX2_placeFor_23 : decode cX2_placeFor 23 = .ok (.goto (-21), 3) := by decide +kernel
theorem dX2_placeFor_26 : decode cX2_placeFor 26 = .ok (.iload_n 2, 1) := by decide +kernel
theorem dX2_placeFor_27 : decode cX2_placeFor 27 = .ok (.aload_n 0, 1) := by decide +kernel
theorem dX2_placeFor_28 : decode cX2_placeFor 28 = .ok (.getfield 28, 3) := by decide +kernel
theorem dX2_placeFor_31 : decode cX2_placeFor 31 = .ok (.if_icmp .ge 15, 3) := by decide +kernel
theorem dX2_placeFor_34 : decode cX2_placeFor 34 = .ok (.aload_n 0, 1) := by decide +kernel
theorem dX2_placeFor_35 : decode cX2_placeFor 35 = .ok (.getfield 11, 3) := by decide +kernel
theorem dX2_placeFor_38 : decode cX2_placeFor 38 = .ok (.iload_n 2, 1) := by decide +kernel
theorem dX2_placeFor_39 : decode cX2_placeFor 39 = .ok (.iaload, 1) := by decide +kernel
theorem dX2_placeFor_40 : decode cX2_placeFor 40 = .ok (.iload_n 1, 1) := by decide +kernel
theorem dX2_placeFor_41 : decode cX2_placeFor 41 = .ok (.if_icmp .ne 5, 3) := by decide +kernel
theorem dX2_placeFor_44 : decode cX2_placeFor 44 = .ok (.iload_n 2, 1) := by decide +kernel
theorem dX2_placeFor_45 : decode cX2_placeFor 45 = .ok (.ireturn, 1) := by decide +kernel
theorem dX2_placeFor_46 : decode cX2_placeFor 46 = .ok (.aload_n 0, 1) := by decide +kernel
theorem dX2_placeFor_47 : decode cX2_placeFor 47 = .ok (.getfield 28, 3) := by decide +kernel
theorem dX2_placeFor_50 : decode cX2_placeFor 50 = .ok (.bipush 22, 2) := by decide +kernel
theorem dX2_placeFor_52 : decode cX2_placeFor 52 = .ok (.if_icmp .lt 5, 3) := by decide +kernel
theorem dX2_placeFor_55 : decode cX2_placeFor 55 = .ok (.iconst (-1), 1) := by decide +kernel
theorem dX2_placeFor_56 : decode cX2_placeFor 56 = .ok (.ireturn, 1) := by decide +kernel
theorem dX2_placeFor_57 : decode cX2_placeFor 57 = .ok (.aload_n 0, 1) := by decide +kernel
theorem dX2_placeFor_58 : decode cX2_placeFor 58 = .ok (.getfield 28, 3) := by decide +kernel
theorem dX2_placeFor_61 : decode cX2_placeFor 61 = .ok (.istore_n 3, 1) := by decide +kernel
theorem dX2_placeFor_62 : decode cX2_placeFor 62 = .ok (.iload_n 3, 1) := by decide +kernel
theorem dX2_placeFor_63 : decode cX2_placeFor 63 = .ok (.iload_n 2, 1) := by decide +kernel
theorem dX2_placeFor_64 : decode cX2_placeFor 64 = .ok (.if_icmp .le 17, 3) := by decide +kernel
theorem dX2_placeFor_67 : decode cX2_placeFor 67 = .ok (.aload_n 0, 1) := by decide +kernel
theorem dX2_placeFor_68 : decode cX2_placeFor 68 = .ok (.iload_n 3, 1) := by decide +kernel
theorem dX2_placeFor_69 : decode cX2_placeFor 69 = .ok (.iconst 1, 1) := by decide +kernel
theorem dX2_placeFor_70 : decode cX2_placeFor 70 = .ok (.isub, 1) := by decide +kernel
theorem dX2_placeFor_71 : decode cX2_placeFor 71 = .ok (.iload_n 3, 1) := by decide +kernel
theorem dX2_placeFor_72 : decode cX2_placeFor 72 = .ok (.invokevirtual 55, 3) := by decide +kernel
theorem dX2_placeFor_75 : decode cX2_placeFor 75 = .ok (.iinc 3 (-1), 3) := by decide +kernel
theorem dX2_placeFor_78 : decode cX2_placeFor 78 = .ok (.goto (-16), 3) := by decide +kernel
theorem dX2_placeFor_81 : decode cX2_placeFor 81 = .ok (.aload_n 0, 1) := by decide +kernel
theorem dX2_placeFor_82 : decode cX2_placeFor 82 = .ok (.dup, 1) := by decide +kernel
theorem dX2_placeFor_83 : decode cX2_placeFor 83 = .ok (.getfield 28, 3) := by decide +kernel
theorem dX2_placeFor_86 : decode cX2_placeFor 86 = .ok (.iconst 1, 1) := by decide +kernel
theorem dX2_placeFor_87 : decode cX2_placeFor 87 = .ok (.iadd, 1) := by decide +kernel
theorem dX2_placeFor_88 : decode cX2_placeFor 88 = .ok (.putfield 28, 3) := by decide +kernel
theorem dX2_placeFor_91 : decode cX2_placeFor 91 = .ok (.iload_n 2, 1) := by decide +kernel
theorem dX2_placeFor_92 : decode cX2_placeFor 92 = .ok (.ireturn, 1) := by decide +kernel
theorem dX2_remove_0 : decode cX2_remove 0 = .ok (.aload_n 0, 1) := by decide +kernel
theorem dX2_remove_1 : decode cX2_remove 1 = .ok (.iload_n 1, 1) := by decide +kernel
theorem dX2_remove_2 : decode cX2_remove 2 = .ok (.invokevirtual 59, 3) := by decide +kernel
theorem dX2_remove_5 : decode cX2_remove 5 = .ok (.ifCond .ne 4, 3) := by decide +kernel
theorem dX2_remove_8 : decode cX2_remove 8 = .ok (.return_, 1) := by decide +kernel
theorem dX2_remove_9 : decode cX2_remove 9 = .ok (.iload_n 1, 1) := by decide +kernel
theorem dX2_remove_10 : decode cX2_remove 10 = .ok (.istore_n 2, 1) := by decide +kernel
theorem dX2_remove_11 : decode cX2_remove 11 = .ok (.iload_n 2, 1) := by decide +kernel
theorem dX2_remove_12 : decode cX2_remove 12 = .ok (.iconst 1, 1) := by decide +kernel
theorem dX2_remove_13 : decode cX2_remove 13 = .ok (.iadd, 1) := by decide +kernel
theorem dX2_remove_14 : decode cX2_remove 14 = .ok (.aload_n 0, 1) := by decide +kernel
theorem dX2_remove_15 : decode cX2_remove 15 = .ok (.getfield 28, 3) := by decide +kernel
theorem dX2_remove_18 : decode cX2_remove 18 = .ok (.if_icmp .ge 17, 3) := by decide +kernel
theorem dX2_remove_21 : decode cX2_remove 21 = .ok (.aload_n 0, 1) := by decide +kernel
theorem dX2_remove_22 : decode cX2_remove 22 = .ok (.iload_n 2, 1) := by decide +kernel
theorem dX2_remove_23 : decode cX2_remove 23 = .ok (.iconst 1, 1) := by decide +kernel
theorem dX2_remove_24 : decode cX2_remove 24 = .ok (.iadd, 1) := by decide +kernel
theorem dX2_remove_25 : decode cX2_remove 25 = .ok (.iload_n 2, 1) := by decide +kernel
theorem dX2_remove_26 : decode cX2_remove 26 = .ok (.invokevirtual 55, 3) := by decide +kernel
theorem dX2_remove_29 : decode cX2_remove 29 = .ok (.iinc 2 1, 3) := by decide +kernel
theorem dX2_remove_32 : decode cX2_remove 32 = .ok (.goto (-21), 3) := by decide +kernel
theorem dX2_remove_35 : decode cX2_remove 35 = .ok (.aload_n 0, 1) := by decide +kernel
theorem dX2_remove_36 : decode cX2_remove 36 = .ok (.dup, 1) := by decide +kernel
theorem dX2_remove_37 : decode cX2_remove 37 = .ok (.getfield 28, 3) := by decide +kernel
theorem dX2_remove_40 : decode cX2_remove 40 = .ok (.iconst 1, 1) := by decide +kernel
theorem dX2_remove_41 : decode cX2_remove 41 = .ok (.isub, 1) := by decide +kernel
theorem dX2_remove_42 : decode cX2_remove 42 = .ok (.putfield 28, 3) := by decide +kernel
theorem dX2_remove_45 : decode cX2_remove 45 = .ok (.return_, 1) := by decide +kernel
theorem dX2_copyRow_0 : decode cX2_copyRow 0 = .ok (.aload_n 0, 1) := by decide +kernel
theorem dX2_copyRow_1 : decode cX2_copyRow 1 = .ok (.getfield 11, 3) := by decide +kernel
theorem dX2_copyRow_4 : decode cX2_copyRow 4 = .ok (.iload_n 2, 1) := by decide +kernel
theorem dX2_copyRow_5 : decode cX2_copyRow 5 = .ok (.aload_n 0, 1) := by decide +kernel
theorem dX2_copyRow_6 : decode cX2_copyRow 6 = .ok (.getfield 11, 3) := by decide +kernel
theorem dX2_copyRow_9 : decode cX2_copyRow 9 = .ok (.iload_n 1, 1) := by decide +kernel
theorem dX2_copyRow_10 : decode cX2_copyRow 10 = .ok (.iaload, 1) := by decide +kernel
theorem dX2_copyRow_11 : decode cX2_copyRow 11 = .ok (.iastore, 1) := by decide +kernel
theorem dX2_copyRow_12 : decode cX2_copyRow 12 = .ok (.aload_n 0, 1) := by decide +kernel
theorem dX2_copyRow_13 : decode cX2_copyRow 13 = .ok (.getfield 15, 3) := by decide +kernel
theorem dX2_copyRow_16 : decode cX2_copyRow 16 = .ok (.iload_n 2, 1) := by decide +kernel
theorem dX2_copyRow_17 : decode cX2_copyRow 17 = .ok (.aload_n 0, 1) := by decide +kernel
theorem dX2_copyRow_18 : decode cX2_copyRow 18 = .ok (.getfield 15, 3) := by decide +kernel
theorem dX2_copyRow_21 : decode cX2_copyRow 21 = .ok (.iload_n 1, 1) := by decide +kernel
theorem dX2_copyRow_22 : decode cX2_copyRow 22 = .ok (.iaload, 1) := by decide +kernel
theorem dX2_copyRow_23 : decode cX2_copyRow 23 = .ok (.iastore, 1) := by decide +kernel
theorem dX2_copyRow_24 : decode cX2_copyRow 24 = .ok (.aload_n 0, 1) := by decide +kernel
theorem dX2_copyRow_25 : decode cX2_copyRow 25 = .ok (.getfield 18, 3) := by decide +kernel
theorem dX2_copyRow_28 : decode cX2_copyRow 28 = .ok (.iload_n 2, 1) := by decide +kernel
theorem dX2_copyRow_29 : decode cX2_copyRow 29 = .ok (.aload_n 0, 1) := by decide +kernel
theorem dX2_copyRow_30 : decode cX2_copyRow 30 = .ok (.getfield 18, 3) := by decide +kernel
theorem dX2_copyRow_33 : decode cX2_copyRow 33 = .ok (.iload_n 1, 1) := by decide +kernel
theorem dX2_copyRow_34 : decode cX2_copyRow 34 = .ok (.iaload, 1) := by decide +kernel
theorem dX2_copyRow_35 : decode cX2_copyRow 35 = .ok (.iastore, 1) := by decide +kernel
theorem dX2_copyRow_36 : decode cX2_copyRow 36 = .ok (.aload_n 0, 1) := by decide +kernel
theorem dX2_copyRow_37 : decode cX2_copyRow 37 = .ok (.getfield 21, 3) := by decide +kernel
theorem dX2_copyRow_40 : decode cX2_copyRow 40 = .ok (.iload_n 2, 1) := by decide +kernel
theorem dX2_copyRow_41 : decode cX2_copyRow 41 = .ok (.aload_n 0, 1) := by decide +kernel
theorem dX2_copyRow_42 : decode cX2_copyRow 42 = .ok (.getfield 21, 3) := by decide +kernel
theorem dX2_copyRow_45 : decode cX2_copyRow 45 = .ok (.iload_n 1, 1) := by decide +kernel
theorem dX2_copyRow_46 : decode cX2_copyRow 46 = .ok (.baload, 1) := by decide +kernel
theorem dX2_copyRow_47 : decode cX2_copyRow 47 = .ok (.bastore, 1) := by decide +kernel
theorem dX2_copyRow_48 : decode cX2_copyRow 48 = .ok (.aload_n 0, 1) := by decide +kernel
theorem dX2_copyRow_49 : decode cX2_copyRow 49 = .ok (.getfield 25, 3) := by decide +kernel
theorem dX2_copyRow_52 : decode cX2_copyRow 52 = .ok (.iload_n 2, 1) := by decide +kernel
theorem dX2_copyRow_53 : decode cX2_copyRow 53 = .ok (.aload_n 0, 1) := by decide +kernel
theorem dX2_copyRow_54 : decode cX2_copyRow 54 = .ok (.getfield 25, 3) := by decide +kernel
theorem dX2_copyRow_57 : decode cX2_copyRow 57 = .ok (.iload_n 1, 1) := by decide +kernel
theorem dX2_copyRow_58 : decode cX2_copyRow 58 = .ok (.iaload, 1) := by decide +kernel
theorem dX2_copyRow_59 : decode cX2_copyRow 59 = .ok (.iastore, 1) := by decide +kernel
theorem dX2_copyRow_60 : decode cX2_copyRow 60 = .ok (.return_, 1) := by decide +kernel
theorem dX2_moveOn_0 : decode cX2_moveOn 0 = .ok (.aload_n 0, 1) := by decide +kernel
theorem dX2_moveOn_1 : decode cX2_moveOn 1 = .ok (.iload_n 1, 1) := by decide +kernel
theorem dX2_moveOn_2 : decode cX2_moveOn 2 = .ok (.invokevirtual 59, 3) := by decide +kernel
theorem dX2_moveOn_5 : decode cX2_moveOn 5 = .ok (.ifCond .eq 27, 3) := by decide +kernel
theorem dX2_moveOn_8 : decode cX2_moveOn 8 = .ok (.aload_n 0, 1) := by decide +kernel
theorem dX2_moveOn_9 : decode cX2_moveOn 9 = .ok (.getfield 25, 3) := by decide +kernel
theorem dX2_moveOn_12 : decode cX2_moveOn 12 = .ok (.iload_n 1, 1) := by decide +kernel
theorem dX2_moveOn_13 : decode cX2_moveOn 13 = .ok (.dup2, 1) := by decide +kernel
theorem dX2_moveOn_14 : decode cX2_moveOn 14 = .ok (.iaload, 1) := by decide +kernel
theorem dX2_moveOn_15 : decode cX2_moveOn 15 = .ok (.aload_n 0, 1) := by decide +kernel
theorem dX2_moveOn_16 : decode cX2_moveOn 16 = .ok (.getfield 21, 3) := by decide +kernel
theorem dX2_moveOn_19 : decode cX2_moveOn 19 = .ok (.iload_n 1, 1) := by decide +kernel
theorem dX2_moveOn_20 : decode cX2_moveOn 20 = .ok (.baload, 1) := by decide +kernel
theorem dX2_moveOn_21 : decode cX2_moveOn 21 = .ok (.ifCond .eq 7, 3) := by decide +kernel
theorem dX2_moveOn_24 : decode cX2_moveOn 24 = .ok (.iload_n 2, 1) := by decide +kernel
theorem dX2_moveOn_25 : decode cX2_moveOn 25 = .ok (.goto 5, 3) := by decide +kernel
theorem dX2_moveOn_28 : decode cX2_moveOn 28 = .ok (.iload_n 2, 1) := by decide +kernel
theorem dX2_moveOn_29 : decode cX2_moveOn 29 = .ok (.ineg, 1) := by decide +kernel
theorem dX2_moveOn_30 : decode cX2_moveOn 30 = .ok (.iadd, 1) := by decide +kernel
theorem dX2_moveOn_31 : decode cX2_moveOn 31 = .ok (.iastore, 1) := by decide +kernel
theorem dX2_moveOn_32 : decode cX2_moveOn 32 = .ok (.return_, 1) := by decide +kernel
theorem dX2_sizeOf_0 : decode cX2_sizeOf 0 = .ok (.aload_n 0, 1) := by decide +kernel
theorem dX2_sizeOf_1 : decode cX2_sizeOf 1 = .ok (.iload_n 1, 1) := by decide +kernel
theorem dX2_sizeOf_2 : decode cX2_sizeOf 2 = .ok (.invokevirtual 59, 3) := by decide +kernel
theorem dX2_sizeOf_5 : decode cX2_sizeOf 5 = .ok (.ifCond .eq 12, 3) := by decide +kernel
theorem dX2_sizeOf_8 : decode cX2_sizeOf 8 = .ok (.aload_n 0, 1) := by decide +kernel
theorem dX2_sizeOf_9 : decode cX2_sizeOf 9 = .ok (.getfield 15, 3) := by decide +kernel
theorem dX2_sizeOf_12 : decode cX2_sizeOf 12 = .ok (.iload_n 1, 1) := by decide +kernel
theorem dX2_sizeOf_13 : decode cX2_sizeOf 13 = .ok (.iaload, 1) := by decide +kernel
theorem dX2_sizeOf_14 : decode cX2_sizeOf 14 = .ok (.goto 4, 3) := by decide +kernel
theorem dX2_sizeOf_17 : decode cX2_sizeOf 17 = .ok (.iconst 0, 1) := by decide +kernel
theorem dX2_sizeOf_18 : decode cX2_sizeOf 18 = .ok (.ireturn, 1) := by decide +kernel
theorem dX2_rankOf_0 : decode cX2_rankOf 0 = .ok (.aload_n 0, 1) := by decide +kernel
theorem dX2_rankOf_1 : decode cX2_rankOf 1 = .ok (.iload_n 1, 1) := by decide +kernel
theorem dX2_rankOf_2 : decode cX2_rankOf 2 = .ok (.invokevirtual 59, 3) := by decide +kernel
theorem dX2_rankOf_5 : decode cX2_rankOf 5 = .ok (.ifCond .eq 12, 3) := by decide +kernel
theorem dX2_rankOf_8 : decode cX2_rankOf 8 = .ok (.aload_n 0, 1) := by decide +kernel
theorem dX2_rankOf_9 : decode cX2_rankOf 9 = .ok (.getfield 18, 3) := by decide +kernel
theorem dX2_rankOf_12 : decode cX2_rankOf 12 = .ok (.iload_n 1, 1) := by decide +kernel
theorem dX2_rankOf_13 : decode cX2_rankOf 13 = .ok (.iaload, 1) := by decide +kernel
theorem dX2_rankOf_14 : decode cX2_rankOf 14 = .ok (.goto 4, 3) := by decide +kernel
theorem dX2_rankOf_17 : decode cX2_rankOf 17 = .ok (.iconst 0, 1) := by decide +kernel
theorem dX2_rankOf_18 : decode cX2_rankOf 18 = .ok (.ireturn, 1) := by decide +kernel
theorem dX2_countIn_0 : decode cX2_countIn 0 = .ok (.iconst 0, 1) := by decide +kernel
theorem dX2_countIn_1 : decode cX2_countIn 1 = .ok (.istore_n 2, 1) := by decide +kernel
theorem dX2_countIn_2 : decode cX2_countIn 2 = .ok (.iconst 0, 1) := by decide +kernel
theorem dX2_countIn_3 : decode cX2_countIn 3 = .ok (.istore_n 3, 1) := by decide +kernel
theorem dX2_countIn_4 : decode cX2_countIn 4 = .ok (.iload_n 3, 1) := by decide +kernel
theorem dX2_countIn_5 : decode cX2_countIn 5 = .ok (.aload_n 0, 1) := by decide +kernel
theorem dX2_countIn_6 : decode cX2_countIn 6 = .ok (.getfield 28, 3) := by decide +kernel
theorem dX2_countIn_9 : decode cX2_countIn 9 = .ok (.if_icmp .ge 22, 3) := by decide +kernel
theorem dX2_countIn_12 : decode cX2_countIn 12 = .ok (.aload_n 0, 1) := by decide +kernel
theorem dX2_countIn_13 : decode cX2_countIn 13 = .ok (.getfield 25, 3) := by decide +kernel
theorem dX2_countIn_16 : decode cX2_countIn 16 = .ok (.iload_n 3, 1) := by decide +kernel
theorem dX2_countIn_17 : decode cX2_countIn 17 = .ok (.iaload, 1) := by decide +kernel
theorem dX2_countIn_18 : decode cX2_countIn 18 = .ok (.iload_n 1, 1) := by decide +kernel
theorem dX2_countIn_19 : decode cX2_countIn 19 = .ok (.if_icmp .ne 6, 3) := by decide +kernel
theorem dX2_countIn_22 : decode cX2_countIn 22 = .ok (.iinc 2 1, 3) := by decide +kernel
theorem dX2_countIn_25 : decode cX2_countIn 25 = .ok (.iinc 3 1, 3) := by decide +kernel
theorem dX2_countIn_28 : decode cX2_countIn 28 = .ok (.goto (-24), 3) := by decide +kernel
theorem dX2_countIn_31 : decode cX2_countIn 31 = .ok (.iload_n 2, 1) := by decide +kernel
theorem dX2_countIn_32 : decode cX2_countIn 32 = .ok (.ireturn, 1) := by decide +kernel
theorem dX2_number_0 : decode cX2_number 0 = .ok (.iload_n 2, 1) := by decide +kernel
theorem dX2_number_1 : decode cX2_number 1 = .ok (.tableswitch 67 0 3 #[31, 38, 45, 60], 31) := by decide +kernel
theorem dX2_number_32 : decode cX2_number 32 = .ok (.aload_n 0, 1) := by decide +kernel
theorem dX2_number_33 : decode cX2_number 33 = .ok (.getfield 15, 3) := by decide +kernel
theorem dX2_number_36 : decode cX2_number 36 = .ok (.iload_n 1, 1) := by decide +kernel
theorem dX2_number_37 : decode cX2_number 37 = .ok (.iaload, 1) := by decide +kernel
theorem dX2_number_38 : decode cX2_number 38 = .ok (.ireturn, 1) := by decide +kernel
theorem dX2_number_39 : decode cX2_number 39 = .ok (.aload_n 0, 1) := by decide +kernel
theorem dX2_number_40 : decode cX2_number 40 = .ok (.getfield 18, 3) := by decide +kernel
theorem dX2_number_43 : decode cX2_number 43 = .ok (.iload_n 1, 1) := by decide +kernel
theorem dX2_number_44 : decode cX2_number 44 = .ok (.iaload, 1) := by decide +kernel
theorem dX2_number_45 : decode cX2_number 45 = .ok (.ireturn, 1) := by decide +kernel
theorem dX2_number_46 : decode cX2_number 46 = .ok (.aload_n 0, 1) := by decide +kernel
theorem dX2_number_47 : decode cX2_number 47 = .ok (.getfield 21, 3) := by decide +kernel
theorem dX2_number_50 : decode cX2_number 50 = .ok (.iload_n 1, 1) := by decide +kernel
theorem dX2_number_51 : decode cX2_number 51 = .ok (.baload, 1) := by decide +kernel
theorem dX2_number_52 : decode cX2_number 52 = .ok (.ifCond .eq 7, 3) := by decide +kernel
theorem dX2_number_55 : decode cX2_number 55 = .ok (.iconst 1, 1) := by decide +kernel
theorem dX2_number_56 : decode cX2_number 56 = .ok (.goto 4, 3) := by decide +kernel
theorem dX2_number_59 : decode cX2_number 59 = .ok (.iconst 0, 1) := by decide +kernel
theorem dX2_number_60 : decode cX2_number 60 = .ok (.ireturn, 1) := by decide +kernel
theorem dX2_number_61 : decode cX2_number 61 = .ok (.aload_n 0, 1) := by decide +kernel
theorem dX2_number_62 : decode cX2_number 62 = .ok (.getfield 25, 3) := by decide +kernel
theorem dX2_number_65 : decode cX2_number 65 = .ok (.iload_n 1, 1) := by decide +kernel
theorem dX2_number_66 : decode cX2_number 66 = .ok (.iaload, 1) := by decide +kernel
theorem dX2_number_67 : decode cX2_number 67 = .ok (.ireturn, 1) := by decide +kernel
theorem dX2_number_68 : decode cX2_number 68 = .ok (.aload_n 0, 1) := by decide +kernel
theorem dX2_number_69 : decode cX2_number 69 = .ok (.iload_n 1, 1) := by decide +kernel
theorem dX2_number_70 : decode cX2_number 70 = .ok (.invokevirtual 63, 3) := by decide +kernel
theorem dX2_number_73 : decode cX2_number 73 = .ok (.ireturn, 1) := by decide +kernel
theorem dX2_letterCount_0 : decode cX2_letterCount 0 = .ok (.iconst 0, 1) := by decide +kernel
theorem dX2_letterCount_1 : decode cX2_letterCount 1 = .ok (.istore_n 2, 1) := by decide +kernel
theorem dX2_letterCount_2 : decode cX2_letterCount 2 = .ok (.iload_n 2, 1) := by decide +kernel
theorem dX2_letterCount_3 : decode cX2_letterCount 3 = .ok (.iconst 4, 1) := by decide +kernel
theorem dX2_letterCount_4 : decode cX2_letterCount 4 = .ok (.if_icmp .ge 20, 3) := by decide +kernel
theorem dX2_letterCount_7 : decode cX2_letterCount 7 = .ok (.aload_n 0, 1) := by decide +kernel
theorem dX2_letterCount_8 : decode cX2_letterCount 8 = .ok (.iload_n 1, 1) := by decide +kernel
theorem dX2_letterCount_9 : decode cX2_letterCount 9 = .ok (.iload_n 2, 1) := by decide +kernel
theorem dX2_letterCount_10 : decode cX2_letterCount 10 = .ok (.invokevirtual 66, 3) := by decide +kernel
theorem dX2_letterCount_13 : decode cX2_letterCount 13 = .ok (.bipush (-2), 2) := by decide +kernel
theorem dX2_letterCount_15 : decode cX2_letterCount 15 = .ok (.if_icmp .eq 9, 3) := by decide +kernel
theorem dX2_letterCount_18 : decode cX2_letterCount 18 = .ok (.iinc 2 1, 3) := by decide +kernel
theorem dX2_letterCount_21 : decode cX2_letterCount 21 = .ok (.goto (-19), 3) := by decide +kernel
theorem dX2_letterCount_24 : decode cX2_letterCount 24 = .ok (.iload_n 2, 1) := by decide +kernel
theorem dX2_letterCount_25 : decode cX2_letterCount 25 = .ok (.ireturn, 1) := by decide +kernel
theorem dX2_letter_0 : decode cX2_letter 0 = .ok (.aload_n 0, 1) := by decide +kernel
theorem dX2_letter_1 : decode cX2_letter 1 = .ok (.iload_n 1, 1) := by decide +kernel
theorem dX2_letter_2 : decode cX2_letter 2 = .ok (.invokevirtual 59, 3) := by decide +kernel
theorem dX2_letter_5 : decode cX2_letter 5 = .ok (.ifCond .eq 12, 3) := by decide +kernel
theorem dX2_letter_8 : decode cX2_letter 8 = .ok (.iload_n 2, 1) := by decide +kernel
theorem dX2_letter_9 : decode cX2_letter 9 = .ok (.ifCond .lt 8, 3) := by decide +kernel
theorem dX2_letter_12 : decode cX2_letter 12 = .ok (.iload_n 2, 1) := by decide +kernel
theorem dX2_letter_13 : decode cX2_letter 13 = .ok (.iconst 4, 1) := by decide +kernel
theorem dX2_letter_14 : decode cX2_letter 14 = .ok (.if_icmp .lt 6, 3) := by decide +kernel
theorem dX2_letter_17 : decode cX2_letter 17 = .ok (.bipush (-2), 2) := by decide +kernel
theorem dX2_letter_19 : decode cX2_letter 19 = .ok (.ireturn, 1) := by decide +kernel
theorem dX2_letter_20 : decode cX2_letter 20 = .ok (.aload_n 0, 1) := by decide +kernel
theorem dX2_letter_21 : decode cX2_letter 21 = .ok (.getfield 11, 3) := by decide +kernel
theorem dX2_letter_24 : decode cX2_letter 24 = .ok (.iload_n 1, 1) := by decide +kernel
theorem dX2_letter_25 : decode cX2_letter 25 = .ok (.iaload, 1) := by decide +kernel
theorem dX2_letter_26 : decode cX2_letter 26 = .ok (.istore_n 3, 1) := by decide +kernel
theorem dX2_letter_27 : decode cX2_letter 27 = .ok (.iconst 3, 1) := by decide +kernel
theorem dX2_letter_28 : decode cX2_letter 28 = .ok (.istore 4, 2) := by decide +kernel
theorem dX2_letter_30 : decode cX2_letter 30 = .ok (.iload 4, 2) := by decide +kernel
theorem dX2_letter_32 : decode cX2_letter 32 = .ok (.iload_n 2, 1) := by decide +kernel
theorem dX2_letter_33 : decode cX2_letter 33 = .ok (.if_icmp .le 14, 3) := by decide +kernel
theorem dX2_letter_36 : decode cX2_letter 36 = .ok (.iload_n 3, 1) := by decide +kernel
theorem dX2_letter_37 : decode cX2_letter 37 = .ok (.bipush 27, 2) := by decide +kernel
theorem dX2_letter_39 : decode cX2_letter 39 = .ok (.idiv, 1) := by decide +kernel
theorem dX2_letter_40 : decode cX2_letter 40 = .ok (.istore_n 3, 1) := by decide +kernel
theorem dX2_letter_41 : decode cX2_letter 41 = .ok (.iinc 4 (-1), 3) := by decide +kernel
theorem dX2_letter_44 : decode cX2_letter 44 = .ok (.goto (-14), 3) := by decide +kernel
theorem dX2_letter_47 : decode cX2_letter 47 = .ok (.iload_n 3, 1) := by decide +kernel
theorem dX2_letter_48 : decode cX2_letter 48 = .ok (.bipush 27, 2) := by decide +kernel
theorem dX2_letter_50 : decode cX2_letter 50 = .ok (.irem, 1) := by decide +kernel
theorem dX2_letter_51 : decode cX2_letter 51 = .ok (.istore 4, 2) := by decide +kernel
theorem dX2_letter_53 : decode cX2_letter 53 = .ok (.iload 4, 2) := by decide +kernel
theorem dX2_letter_55 : decode cX2_letter 55 = .ok (.ifCond .ne 8, 3) := by decide +kernel
theorem dX2_letter_58 : decode cX2_letter 58 = .ok (.bipush (-2), 2) := by decide +kernel
theorem dX2_letter_60 : decode cX2_letter 60 = .ok (.goto 8, 3) := by decide +kernel
theorem dX2_letter_63 : decode cX2_letter 63 = .ok (.bipush 96, 2) := by decide +kernel
theorem dX2_letter_65 : decode cX2_letter 65 = .ok (.iload 4, 2) := by decide +kernel
theorem dX2_letter_67 : decode cX2_letter 67 = .ok (.iadd, 1) := by decide +kernel
theorem dX2_letter_68 : decode cX2_letter 68 = .ok (.ireturn, 1) := by decide +kernel
theorem dX3_init_0 : decode cX3_init 0 = .ok (.aload_n 0, 1) := by decide +kernel
theorem dX3_init_1 : decode cX3_init 1 = .ok (.invokespecial 3, 3) := by decide +kernel
theorem dX3_init_4 : decode cX3_init 4 = .ok (.aload_n 0, 1) := by decide +kernel
theorem dX3_init_5 : decode cX3_init 5 = .ok (.bipush 22, 2) := by decide +kernel
theorem dX3_init_7 : decode cX3_init 7 = .ok (.newarray .int, 2) := by decide +kernel
theorem dX3_init_9 : decode cX3_init 9 = .ok (.putfield 11, 3) := by decide +kernel
theorem dX3_init_12 : decode cX3_init 12 = .ok (.return_, 1) := by decide +kernel
theorem dX3_boatAt_0 : decode cX3_boatAt 0 = .ok (.iload_n 1, 1) := by decide +kernel
theorem dX3_boatAt_1 : decode cX3_boatAt 1 = .ok (.ifCond .lt 20, 3) := by decide +kernel
theorem dX3_boatAt_4 : decode cX3_boatAt 4 = .ok (.iload_n 1, 1) := by decide +kernel
theorem dX3_boatAt_5 : decode cX3_boatAt 5 = .ok (.aload_n 0, 1) := by decide +kernel
theorem dX3_boatAt_6 : decode cX3_boatAt 6 = .ok (.getfield 17, 3) := by decide +kernel
theorem dX3_boatAt_9 : decode cX3_boatAt 9 = .ok (.if_icmp .ge 12, 3) := by decide +kernel
theorem dX3_boatAt_12 : decode cX3_boatAt 12 = .ok (.aload_n 0, 1) := by decide +kernel
theorem dX3_boatAt_13 : decode cX3_boatAt 13 = .ok (.getfield 11, 3) := by decide +kernel
theorem dX3_boatAt_16 : decode cX3_boatAt 16 = .ok (.iload_n 1, 1) := by decide +kernel
theorem dX3_boatAt_17 : decode cX3_boatAt 17 = .ok (.iaload, 1) := by decide +kernel
theorem dX3_boatAt_18 : decode cX3_boatAt 18 = .ok (.goto 5, 3) := by decide +kernel
theorem dX3_boatAt_21 : decode cX3_boatAt 21 = .ok (.bipush (-2), 2) := by decide +kernel
theorem dX3_boatAt_23 : decode cX3_boatAt 23 = .ok (.ireturn, 1) := by decide +kernel
theorem dX3_gather_0 : decode cX3_gather 0 = .ok (.aload_n 0, 1) := by decide +kernel
theorem dX3_gather_1 : decode cX3_gather 1 = .ok (.iconst 0, 1) := by decide +kernel
theorem dX3_gather_2 : decode cX3_gather 2 = .ok (.putfield 17, 3) := by decide +kernel
theorem dX3_gather_5 : decode cX3_gather 5 = .ok (.iconst 0, 1) := by decide +kernel
theorem dX3_gather_6 : decode cX3_gather 6 = .ok (.istore 4, 2) := by decide +kernel
theorem dX3_gather_8 : decode cX3_gather 8 = .ok (.iload 4, 2) := by decide +kernel
theorem dX3_gather_10 : decode cX3_gather 10 = .ok (.aload_n 1, 1) := by decide +kernel
theorem dX3_gather_11 : decode cX3_gather 11 = .ok (.getfield 21, 3) := by decide +kernel
theorem dX3_gather_14 : decode cX3_gather 14 = .ok (.if_icmp .ge 38, 3) := by decide +kernel
theorem dX3_gather_17 : decode cX3_gather 17 = .ok (.aload_n 1, 1) := by decide +kernel
theorem dX3_gather_18 : decode cX3_gather 18 = .ok (.getfield 22, 3) := by decide +kernel
theorem dX3_gather_21 : decode cX3_gather 21 = .ok (.iload 4, 2) := by decide +kernel
theorem dX3_gather_23 : decode cX3_gather 23 = .ok (.iaload, 1) := by decide +kernel
theorem dX3_gather_24 : decode cX3_gather 24 = .ok (.iload_n 2, 1) := by decide +kernel
theorem dX3_gather_25 : decode cX3_gather 25 = .ok (.if_icmp .ne 21, 3) := by decide +kernel
theorem dX3_gather_28 : decode cX3_gather 28 = .ok (.aload_n 1, 1) := by decide +kernel
theorem dX3_gather_29 : decode cX3_gather 29 = .ok (.getfield 25, 3) := by decide +kernel
theorem dX3_gather_32 : decode cX3_gather 32 = .ok (.iload 4, 2) := by decide +kernel
theorem dX3_gather_34 : decode cX3_gather 34 = .ok (.baload, 1) := by decide +kernel
theorem dX3_gather_35 : decode cX3_gather 35 = .ok (.iload_n 3, 1) := by decide +kernel
theorem dX3_gather_36 : decode cX3_gather 36 = .ok (.if_icmp .ne 10, 3) := by decide +kernel
theorem dX3_gather_39 : decode cX3_gather 39 = .ok (.aload_n 0, 1) := by decide +kernel
theorem dX3_gather_40 : decode cX3_gather 40 = .ok (.aload_n 1, 1) := by decide +kernel
theorem dX3_gather_41 : decode cX3_gather 41 = .ok (.iload 4, 2) := by decide +kernel
theorem dX3_gather_43 : decode cX3_gather 43 = .ok (.invokevirtual 29, 3) := by decide +kernel
theorem dX3_gather_46 : decode cX3_gather 46 = .ok (.iinc 4 1, 3) := by decide +kernel
theorem dX3_gather_49 : decode cX3_gather 49 = .ok (.goto (-41), 3) := by decide +kernel
theorem dX3_gather_52 : decode cX3_gather 52 = .ok (.return_, 1) := by decide +kernel
theorem dX3_join_0 : decode cX3_join 0 = .ok (.aload_n 0, 1) := by decide +kernel
theorem dX3_join_1 : decode cX3_join 1 = .ok (.getfield 17, 3) := by decide +kernel
theorem dX3_join_4 : decode cX3_join 4 = .ok (.bipush 22, 2) := by decide +kernel
theorem dX3_join_6 : decode cX3_join 6 = .ok (.if_icmp .lt 4, 3) := by decide +kernel
theorem dX3_join_9 : decode cX3_join 9 = .ok (.return_, 1) := by decide +kernel
theorem dX3_join_10 : decode cX3_join 10 = .ok (.aload_n 0, 1) := by decide +kernel
theorem dX3_join_11 : decode cX3_join 11 = .ok (.getfield 17, 3) := by decide +kernel
theorem dX3_join_14 : decode cX3_join 14 = .ok (.istore_n 3, 1) := by decide +kernel
theorem dX3_join_15 : decode cX3_join 15 = .ok (.iload_n 3, 1) := by decide +kernel
theorem dX3_join_16 : decode cX3_join 16 = .ok (.ifCond .le 43, 3) := by decide +kernel
theorem dX3_join_19 : decode cX3_join 19 = .ok (.aload_n 1, 1) := by decide +kernel
theorem dX3_join_20 : decode cX3_join 20 = .ok (.aload_n 0, 1) := by decide +kernel
theorem dX3_join_21 : decode cX3_join 21 = .ok (.getfield 11, 3) := by decide +kernel
theorem dX3_join_24 : decode cX3_join 24 = .ok (.iload_n 3, 1) := by decide +kernel
theorem dX3_join_25 : decode cX3_join 25 = .ok (.iconst 1, 1) := by decide +kernel
theorem dX3_join_26 : decode cX3_join 26 = .ok (.isub, 1) := by decide +kernel
theorem dX3_join_27 : decode cX3_join 27 = .ok (.iaload, 1) := by decide +kernel
theorem dX3_join_28 : decode cX3_join 28 = .ok (.invokevirtual 33, 3) := by decide +kernel
theorem dX3_join_31 : decode cX3_join 31 = .ok (.aload_n 1, 1) := by decide +kernel
theorem dX3_join_32 : decode cX3_join 32 = .ok (.iload_n 2, 1) := by decide +kernel
theorem dX3_join_33 : decode cX3_join 33 = .ok (.invokevirtual 33, 3) := by decide +kernel
theorem dX3_join_36 : decode cX3_join 36 = .ok (.if_icmp .ge 23, 3) := by decide +kernel
theorem dX3_join_39 : decode cX3_join 39 = .ok (.aload_n 0, 1) := by decide +kernel
theorem dX3_join_40 : decode cX3_join 40 = .ok (.getfield 11, 3) := by decide +kernel
theorem dX3_join_43 : decode cX3_join 43 = .ok (.iload_n 3, 1) := by decide +kernel
theorem dX3_join_44 : decode cX3_join 44 = .ok (.aload_n 0, 1) := by decide +kernel
theorem dX3_join_45 : decode cX3_join 45 = .ok (.getfield 11, 3) := by decide +kernel
theorem dX3_join_48 : decode cX3_join 48 = .ok (.iload_n 3, 1) := by decide +kernel
theorem dX3_join_49 : decode cX3_join 49 = .ok (.iconst 1, 1) := by decide +kernel
theorem dX3_join_50 : decode cX3_join 50 = .ok (.isub, 1) := by decide +kernel
theorem dX3_join_51 : decode cX3_join 51 = .ok (.iaload, 1) := by decide +kernel
theorem dX3_join_52 : decode cX3_join 52 = .ok (.iastore, 1) := by decide +kernel
theorem dX3_join_53 : decode cX3_join 53 = .ok (.iinc 3 (-1), 3) := by decide +kernel
theorem dX3_join_56 : decode cX3_join 56 = .ok (.goto (-41), 3) := by decide +kernel
theorem dX3_join_59 : decode cX3_join 59 = .ok (.aload_n 0, 1) := by decide +kernel
theorem dX3_join_60 : decode cX3_join 60 = .ok (.getfield 11, 3) := by decide +kernel
theorem dX3_join_63 : decode cX3_join 63 = .ok (.iload_n 3, 1) := by decide +kernel
theorem dX3_join_64 : decode cX3_join 64 = .ok (.iload_n 2, 1) := by decide +kernel
theorem dX3_join_65 : decode cX3_join 65 = .ok (.iastore, 1) := by decide +kernel
theorem dX3_join_66 : decode cX3_join 66 = .ok (.aload_n 0, 1) := by decide +kernel
theorem dX3_join_67 : decode cX3_join 67 = .ok (.dup, 1) := by decide +kernel
theorem dX3_join_68 : decode cX3_join 68 = .ok (.getfield 17, 3) := by decide +kernel
theorem dX3_join_71 : decode cX3_join 71 = .ok (.iconst 1, 1) := by decide +kernel
theorem dX3_join_72 : decode cX3_join 72 = .ok (.iadd, 1) := by decide +kernel
theorem dX3_join_73 : decode cX3_join 73 = .ok (.putfield 17, 3) := by decide +kernel
theorem dX3_join_76 : decode cX3_join 76 = .ok (.return_, 1) := by decide +kernel
theorem dX4_init_0 : decode cX4_init 0 = .ok (.aload_n 0, 1) := by decide +kernel
theorem dX4_init_1 : decode cX4_init 1 = .ok (.invokespecial 3, 3) := by decide +kernel
theorem dX4_init_4 : decode cX4_init 4 = .ok (.return_, 1) := by decide +kernel
theorem dX4_done_0 : decode cX4_done 0 = .ok (.aload_n 0, 1) := by decide +kernel
theorem dX4_done_1 : decode cX4_done 1 = .ok (.getfield 9, 3) := by decide +kernel
theorem dX4_done_4 : decode cX4_done 4 = .ok (.aload_n 0, 1) := by decide +kernel
theorem dX4_done_5 : decode cX4_done 5 = .ok (.getfield 15, 3) := by decide +kernel
theorem dX4_done_8 : decode cX4_done 8 = .ok (.iadd, 1) := by decide +kernel
theorem dX4_done_9 : decode cX4_done 9 = .ok (.ireturn, 1) := by decide +kernel
theorem dX4_go_0 : decode cX4_go 0 = .ok (.aload_n 0, 1) := by decide +kernel
theorem dX4_go_1 : decode cX4_go 1 = .ok (.iconst 0, 1) := by decide +kernel
theorem dX4_go_2 : decode cX4_go 2 = .ok (.putfield 9, 3) := by decide +kernel
theorem dX4_go_5 : decode cX4_go 5 = .ok (.aload_n 0, 1) := by decide +kernel
theorem dX4_go_6 : decode cX4_go 6 = .ok (.iconst 0, 1) := by decide +kernel
theorem dX4_go_7 : decode cX4_go 7 = .ok (.putfield 15, 3) := by decide +kernel
theorem dX4_go_10 : decode cX4_go 10 = .ok (.aload_n 0, 1) := by decide +kernel
theorem dX4_go_11 : decode cX4_go 11 = .ok (.iconst 0, 1) := by decide +kernel
theorem dX4_go_12 : decode cX4_go 12 = .ok (.putfield 18, 3) := by decide +kernel
theorem dX4_go_15 : decode cX4_go 15 = .ok (.aload_n 3, 1) := by decide +kernel
theorem dX4_go_16 : decode cX4_go 16 = .ok (.getfield 21, 3) := by decide +kernel
theorem dX4_go_19 : decode cX4_go 19 = .ok (.aload 4, 2) := by decide +kernel
theorem dX4_go_21 : decode cX4_go 21 = .ok (.getfield 21, 3) := by decide +kernel
theorem dX4_go_24 : decode cX4_go 24 = .ok (.iadd, 1) := by decide +kernel
theorem dX4_go_25 : decode cX4_go 25 = .ok (.istore 7, 2) := by decide +kernel
theorem dX4_go_27 : decode cX4_go 27 = .ok (.iconst 0, 1) := by decide +kernel
theorem dX4_go_28 : decode cX4_go 28 = .ok (.istore 8, 2) := by decide +kernel
theorem dX4_go_30 : decode cX4_go 30 = .ok (.iload 8, 2) := by decide +kernel
theorem dX4_go_32 : decode cX4_go 32 = .ok (.iload 7, 2) := by decide +kernel
theorem dX4_go_34 : decode cX4_go 34 = .ok (.if_icmp .ge 127, 3) := by decide +kernel
theorem dX4_go_37 : decode cX4_go 37 = .ok (.aload_n 1, 1) := by decide +kernel
theorem dX4_go_38 : decode cX4_go 38 = .ok (.iload 5, 2) := by decide +kernel
theorem dX4_go_40 : decode cX4_go 40 = .ok (.invokevirtual 26, 3) := by decide +kernel
theorem dX4_go_43 : decode cX4_go 43 = .ok (.ifCond .eq 118, 3) := by decide +kernel
theorem dX4_go_46 : decode cX4_go 46 = .ok (.aload_n 0, 1) := by decide +kernel
theorem dX4_go_47 : decode cX4_go 47 = .ok (.aload_n 2, 1) := by decide +kernel
theorem dX4_go_48 : decode cX4_go 48 = .ok (.aload_n 3, 1) := by decide +kernel
theorem dX4_go_49 : decode cX4_go 49 = .ok (.aload 4, 2) := by decide +kernel
theorem dX4_go_51 : decode cX4_go 51 = .ok (.aload_n 1, 1) := by decide +kernel
theorem dX4_go_52 : decode cX4_go 52 = .ok (.getfield 32, 3) := by decide +kernel
theorem dX4_go_55 : decode cX4_go 55 = .ok (.iload 5, 2) := by decide +kernel
theorem dX4_go_57 : decode cX4_go 57 = .ok (.baload, 1) := by decide +kernel
theorem dX4_go_58 : decode cX4_go 58 = .ok (.iload 6, 2) := by decide +kernel
theorem dX4_go_60 : decode cX4_go 60 = .ok (.invokevirtual 36, 3) := by decide +kernel
theorem dX4_go_63 : decode cX4_go 63 = .ok (.istore 9, 2) := by decide +kernel
theorem dX4_go_65 : decode cX4_go 65 = .ok (.iload 9, 2) := by decide +kernel
theorem dX4_go_67 : decode cX4_go 67 = .ok (.ifCond .eq 14, 3) := by decide +kernel
theorem dX4_go_70 : decode cX4_go 70 = .ok (.aload_n 3, 1) := by decide +kernel
theorem dX4_go_71 : decode cX4_go 71 = .ok (.aload_n 0, 1) := by decide +kernel
theorem dX4_go_72 : decode cX4_go 72 = .ok (.getfield 9, 3) := by decide +kernel
theorem dX4_go_75 : decode cX4_go 75 = .ok (.invokevirtual 40, 3) := by decide +kernel
theorem dX4_go_78 : decode cX4_go 78 = .ok (.goto 12, 3) := by decide +kernel
theorem dX4_go_81 : decode cX4_go 81 = .ok (.aload 4, 2) := by decide +kernel
theorem dX4_go_83 : decode cX4_go 83 = .ok (.aload_n 0, 1) := by decide +kernel
theorem dX4_go_84 : decode cX4_go 84 = .ok (.getfield 15, 3) := by decide +kernel
theorem dX4_go_87 : decode cX4_go 87 = .ok (.invokevirtual 40, 3) := by decide +kernel
theorem dX4_go_90 : decode cX4_go 90 = .ok (.istore 10, 2) := by decide +kernel
theorem dX4_go_92 : decode cX4_go 92 = .ok (.aload_n 1, 1) := by decide +kernel
theorem dX4_go_93 : decode cX4_go 93 = .ok (.iload 5, 2) := by decide +kernel
theorem dX4_go_95 : decode cX4_go 95 = .ok (.iload 9, 2) := by decide +kernel
theorem dX4_go_97 : decode cX4_go 97 = .ok (.aload_n 2, 1) := by decide +kernel
theorem dX4_go_98 : decode cX4_go 98 = .ok (.iload 10, 2) := by decide +kernel
theorem dX4_go_100 : decode cX4_go 100 = .ok (.invokevirtual 44, 3) := by decide +kernel
theorem dX4_go_103 : decode cX4_go 103 = .ok (.invokevirtual 49, 3) := by decide +kernel
theorem dX4_go_106 : decode cX4_go 106 = .ok (.istore 11, 2) := by decide +kernel
theorem dX4_go_108 : decode cX4_go 108 = .ok (.iload 11, 2) := by decide +kernel
theorem dX4_go_110 : decode cX4_go 110 = .ok (.ldc 53, 2) := by decide +kernel
theorem dX4_go_112 : decode cX4_go 112 = .ok (.if_icmp .ne 4, 3) := by decide +kernel
theorem dX4_go_115 : decode cX4_go 115 = .ok (.return_, 1) := by decide +kernel
theorem dX4_go_116 : decode cX4_go 116 = .ok (.aload_n 0, 1) := by decide +kernel
theorem dX4_go_117 : decode cX4_go 117 = .ok (.dup, 1) := by decide +kernel
theorem dX4_go_118 : decode cX4_go 118 = .ok (.getfield 18, 3) := by decide +kernel
theorem dX4_go_121 : decode cX4_go 121 = .ok (.iload 11, 2) := by decide +kernel
theorem dX4_go_123 : decode cX4_go 123 = .ok (.iadd, 1) := by decide +kernel
theorem dX4_go_124 : decode cX4_go 124 = .ok (.putfield 18, 3) := by decide +kernel
theorem dX4_go_127 : decode cX4_go 127 = .ok (.iload 9, 2) := by decide +kernel
theorem dX4_go_129 : decode cX4_go 129 = .ok (.ifCond .eq 16, 3) := by decide +kernel
theorem dX4_go_132 : decode cX4_go 132 = .ok (.aload_n 0, 1) := by decide +kernel
theorem dX4_go_133 : decode cX4_go 133 = .ok (.dup, 1) := by decide +kernel
theorem dX4_go_134 : decode cX4_go 134 = .ok (.getfield 9, 3) := by decide +kernel
theorem dX4_go_137 : decode cX4_go 137 = .ok (.iconst 1, 1) := by decide +kernel
theorem dX4_go_138 : decode cX4_go 138 = .ok (.iadd, 1) := by decide +kernel
theorem dX4_go_139 : decode cX4_go 139 = .ok (.putfield 9, 3) := by decide +kernel
theorem dX4_go_142 : decode cX4_go 142 = .ok (.goto 13, 3) := by decide +kernel
theorem dX4_go_145 : decode cX4_go 145 = .ok (.aload_n 0, 1) := by decide +kernel
theorem dX4_go_146 : decode cX4_go 146 = .ok (.dup, 1) := by decide +kernel
theorem dX4_go_147 : decode cX4_go 147 = .ok (.getfield 15, 3) := by decide +kernel
theorem dX4_go_150 : decode cX4_go 150 = .ok (.iconst 1, 1) := by decide +kernel
theorem dX4_go_151 : decode cX4_go 151 = .ok (.iadd, 1) := by decide +kernel
theorem dX4_go_152 : decode cX4_go 152 = .ok (.putfield 15, 3) := by decide +kernel
theorem dX4_go_155 : decode cX4_go 155 = .ok (.iinc 8 1, 3) := by decide +kernel
theorem dX4_go_158 : decode cX4_go 158 = .ok (.goto (-128), 3) := by decide +kernel
theorem dX4_go_161 : decode cX4_go 161 = .ok (.return_, 1) := by decide +kernel
theorem dX4_isFromBelowNext_0 : decode cX4_isFromBelowNext 0 = .ok (.aload_n 0, 1) := by decide +kernel
theorem dX4_isFromBelowNext_1 : decode cX4_isFromBelowNext 1 = .ok (.getfield 9, 3) := by decide +kernel
theorem dX4_isFromBelowNext_4 : decode cX4_isFromBelowNext 4 = .ok (.aload_n 2, 1) := by decide +kernel
theorem dX4_isFromBelowNext_5 : decode cX4_isFromBelowNext 5 = .ok (.getfield 21, 3) := by decide +kernel
theorem dX4_isFromBelowNext_8 : decode cX4_isFromBelowNext 8 = .ok (.if_icmp .ge 14, 3) := by decide +kernel
theorem dX4_isFromBelowNext_11 : decode cX4_isFromBelowNext 11 = .ok (.aload_n 0, 1) := by decide +kernel
theorem dX4_isFromBelowNext_12 : decode cX4_isFromBelowNext 12 = .ok (.getfield 15, 3) := by decide +kernel
theorem dX4_isFromBelowNext_15 : decode cX4_isFromBelowNext 15 = .ok (.aload_n 3, 1) := by decide +kernel
theorem dX4_isFromBelowNext_16 : decode cX4_isFromBelowNext 16 = .ok (.getfield 21, 3) := by decide +kernel
theorem dX4_isFromBelowNext_19 : decode cX4_isFromBelowNext 19 = .ok (.if_icmp .lt 20, 3) := by decide +kernel
theorem dX4_isFromBelowNext_22 : decode cX4_isFromBelowNext 22 = .ok (.aload_n 0, 1) := by decide +kernel
theorem dX4_isFromBelowNext_23 : decode cX4_isFromBelowNext 23 = .ok (.getfield 9, 3) := by decide +kernel
theorem dX4_isFromBelowNext_26 : decode cX4_isFromBelowNext 26 = .ok (.aload_n 2, 1) := by decide +kernel
theorem dX4_isFromBelowNext_27 : decode cX4_isFromBelowNext 27 = .ok (.getfield 21, 3) := by decide +kernel
theorem dX4_isFromBelowNext_30 : decode cX4_isFromBelowNext 30 = .ok (.if_icmp .ge 7, 3) := by decide +kernel
theorem dX4_isFromBelowNext_33 : decode cX4_isFromBelowNext 33 = .ok (.iconst 1, 1) := by decide +kernel
theorem dX4_isFromBelowNext_34 : decode cX4_isFromBelowNext 34 = .ok (.goto 4, 3) := by decide +kernel
theorem dX4_isFromBelowNext_37 : decode cX4_isFromBelowNext 37 = .ok (.iconst 0, 1) := by decide +kernel
theorem dX4_isFromBelowNext_38 : decode cX4_isFromBelowNext 38 = .ok (.ireturn, 1) := by decide +kernel
theorem dX4_isFromBelowNext_39 : decode cX4_isFromBelowNext 39 = .ok (.iload 5, 2) := by decide +kernel
theorem dX4_isFromBelowNext_41 : decode cX4_isFromBelowNext 41 = .ok (.tableswitch 67 0 2 #[27, 44, 65], 27) := by decide +kernel
theorem dX4_isFromBelowNext_68 : decode cX4_isFromBelowNext 68 = .ok (.aload_n 0, 1) := by decide +kernel
theorem dX4_isFromBelowNext_69 : decode cX4_isFromBelowNext 69 = .ok (.getfield 9, 3) := by decide +kernel
theorem dX4_isFromBelowNext_72 : decode cX4_isFromBelowNext 72 = .ok (.aload_n 0, 1) := by decide +kernel
theorem dX4_isFromBelowNext_73 : decode cX4_isFromBelowNext 73 = .ok (.getfield 15, 3) := by decide +kernel
theorem dX4_isFromBelowNext_76 : decode cX4_isFromBelowNext 76 = .ok (.if_icmp .gt 7, 3) := by decide +kernel
theorem dX4_isFromBelowNext_79 : decode cX4_isFromBelowNext 79 = .ok (.iconst 1, 1) := by decide +kernel
theorem dX4_isFromBelowNext_80 : decode cX4_isFromBelowNext 80 = .ok (.goto 4, 3) := by decide +kernel
theorem dX4_isFromBelowNext_83 : decode cX4_isFromBelowNext 83 = .ok (.iconst 0, 1) := by decide +kernel
theorem dX4_isFromBelowNext_84 : decode cX4_isFromBelowNext 84 = .ok (.ireturn, 1) := by decide +kernel
theorem dX4_isFromBelowNext_85 : decode cX4_isFromBelowNext 85 = .ok (.aload_n 1, 1) := by decide +kernel
theorem dX4_isFromBelowNext_86 : decode cX4_isFromBelowNext 86 = .ok (.aload_n 2, 1) := by decide +kernel
theorem dX4_isFromBelowNext_87 : decode cX4_isFromBelowNext 87 = .ok (.aload_n 0, 1) := by decide +kernel
theorem dX4_isFromBelowNext_88 : decode cX4_isFromBelowNext 88 = .ok (.getfield 9, 3) := by decide +kernel
theorem dX4_isFromBelowNext_91 : decode cX4_isFromBelowNext 91 = .ok (.invokevirtual 40, 3) := by decide +kernel
theorem dX4_isFromBelowNext_94 : decode cX4_isFromBelowNext 94 = .ok (.aload_n 3, 1) := by decide +kernel
theorem dX4_isFromBelowNext_95 : decode cX4_isFromBelowNext 95 = .ok (.aload_n 0, 1) := by decide +kernel
theorem dX4_isFromBelowNext_96 : decode cX4_isFromBelowNext 96 = .ok (.getfield 15, 3) := by decide +kernel
theorem dX4_isFromBelowNext_99 : decode cX4_isFromBelowNext 99 = .ok (.invokevirtual 40, 3) := by decide +kernel
theorem dX4_isFromBelowNext_102 : decode cX4_isFromBelowNext 102 = .ok (.invokestatic 54, 3) := by decide +kernel
theorem dX4_isFromBelowNext_105 : decode cX4_isFromBelowNext 105 = .ok (.ireturn, 1) := by decide +kernel
theorem dX4_isFromBelowNext_106 : decode cX4_isFromBelowNext 106 = .ok (.iconst 1, 1) := by decide +kernel
theorem dX4_isFromBelowNext_107 : decode cX4_isFromBelowNext 107 = .ok (.ireturn, 1) := by decide +kernel
theorem dX4_isFromBelowNext_108 : decode cX4_isFromBelowNext 108 = .ok (.iload 4, 2) := by decide +kernel
theorem dX4_isFromBelowNext_110 : decode cX4_isFromBelowNext 110 = .ok (.ifCond .ne 7, 3) := by decide +kernel
theorem dX4_isFromBelowNext_113 : decode cX4_isFromBelowNext 113 = .ok (.iconst 1, 1) := by decide +kernel
theorem dX4_isFromBelowNext_114 : decode cX4_isFromBelowNext 114 = .ok (.goto 4, 3) := by decide +kernel
theorem dX4_isFromBelowNext_117 : decode cX4_isFromBelowNext 117 = .ok (.iconst 0, 1) := by decide +kernel
theorem dX4_isFromBelowNext_118 : decode cX4_isFromBelowNext 118 = .ok (.ireturn, 1) := by decide +kernel
theorem dX4_isAhead_0 : decode cX4_isAhead 0 = .ok (.aload_n 0, 1) := by decide +kernel
theorem dX4_isAhead_1 : decode cX4_isAhead 1 = .ok (.iload_n 1, 1) := by decide +kernel
theorem dX4_isAhead_2 : decode cX4_isAhead 2 = .ok (.invokevirtual 58, 3) := by decide +kernel
theorem dX4_isAhead_5 : decode cX4_isAhead 5 = .ok (.istore_n 3, 1) := by decide +kernel
theorem dX4_isAhead_6 : decode cX4_isAhead 6 = .ok (.aload_n 0, 1) := by decide +kernel
theorem dX4_isAhead_7 : decode cX4_isAhead 7 = .ok (.iload_n 2, 1) := by decide +kernel
theorem dX4_isAhead_8 : decode cX4_isAhead 8 = .ok (.invokevirtual 58, 3) := by decide +kernel
theorem dX4_isAhead_11 : decode cX4_isAhead 11 = .ok (.istore 4, 2) := by decide +kernel
theorem dX4_isAhead_13 : decode cX4_isAhead 13 = .ok (.iload_n 3, 1) := by decide +kernel
theorem dX4_isAhead_14 : decode cX4_isAhead 14 = .ok (.iload 4, 2) := by decide +kernel
theorem dX4_isAhead_16 : decode cX4_isAhead 16 = .ok (.if_icmp .gt 14, 3) := by decide +kernel
theorem dX4_isAhead_19 : decode cX4_isAhead 19 = .ok (.iload_n 3, 1) := by decide +kernel
theorem dX4_isAhead_20 : decode cX4_isAhead 20 = .ok (.iload 4, 2) := by decide +kernel
theorem dX4_isAhead_22 : decode cX4_isAhead 22 = .ok (.if_icmp .ne 12, 3) := by decide +kernel
theorem dX4_isAhead_25 : decode cX4_isAhead 25 = .ok (.iload_n 1, 1) := by decide +kernel
theorem dX4_isAhead_26 : decode cX4_isAhead 26 = .ok (.iload_n 2, 1) := by decide +kernel
theorem dX4_isAhead_27 : decode cX4_isAhead 27 = .ok (.if_icmp .ge 7, 3) := by decide +kernel
theorem dX4_isAhead_30 : decode cX4_isAhead 30 = .ok (.iconst 1, 1) := by decide +kernel
theorem dX4_isAhead_31 : decode cX4_isAhead 31 = .ok (.goto 4, 3) := by decide +kernel
theorem dX4_isAhead_34 : decode cX4_isAhead 34 = .ok (.iconst 0, 1) := by decide +kernel
theorem dX4_isAhead_35 : decode cX4_isAhead 35 = .ok (.ireturn, 1) := by decide +kernel
theorem dX5_init_0 : decode cX5_init 0 = .ok (.aload_n 0, 1) := by decide +kernel
theorem dX5_init_1 : decode cX5_init 1 = .ok (.invokespecial 3, 3) := by decide +kernel
theorem dX5_init_4 : decode cX5_init 4 = .ok (.aload_n 0, 1) := by decide +kernel
theorem dX5_init_5 : decode cX5_init 5 = .ok (.bipush 118, 2) := by decide +kernel
theorem dX5_init_7 : decode cX5_init 7 = .ok (.newarray .int, 2) := by decide +kernel
theorem dX5_init_9 : decode cX5_init 9 = .ok (.putfield 11, 3) := by decide +kernel
theorem dX5_init_12 : decode cX5_init 12 = .ok (.return_, 1) := by decide +kernel
theorem dX5_copyFrom_0 : decode cX5_copyFrom 0 = .ok (.aload_n 1, 1) := by decide +kernel
theorem dX5_copyFrom_1 : decode cX5_copyFrom 1 = .ok (.getfield 11, 3) := by decide +kernel
theorem dX5_copyFrom_4 : decode cX5_copyFrom 4 = .ok (.iconst 0, 1) := by decide +kernel
theorem dX5_copyFrom_5 : decode cX5_copyFrom 5 = .ok (.aload_n 0, 1) := by decide +kernel
theorem dX5_copyFrom_6 : decode cX5_copyFrom 6 = .ok (.getfield 11, 3) := by decide +kernel
theorem dX5_copyFrom_9 : decode cX5_copyFrom 9 = .ok (.iconst 0, 1) := by decide +kernel
theorem dX5_copyFrom_10 : decode cX5_copyFrom 10 = .ok (.bipush 118, 2) := by decide +kernel
theorem dX5_copyFrom_12 : decode cX5_copyFrom 12 = .ok (.invokestatic 15, 3) := by decide +kernel
theorem dX5_copyFrom_15 : decode cX5_copyFrom 15 = .ok (.return_, 1) := by decide +kernel
theorem dX5_add_0 : decode cX5_add 0 = .ok (.iload_n 1, 1) := by decide +kernel
theorem dX5_add_1 : decode cX5_add 1 = .ok (.bipush (-9), 2) := by decide +kernel
theorem dX5_add_3 : decode cX5_add 3 = .ok (.if_icmp .lt 22, 3) := by decide +kernel
theorem dX5_add_6 : decode cX5_add 6 = .ok (.iload_n 1, 1) := by decide +kernel
theorem dX5_add_7 : decode cX5_add 7 = .ok (.bipush 108, 2) := by decide +kernel
theorem dX5_add_9 : decode cX5_add 9 = .ok (.if_icmp .gt 16, 3) := by decide +kernel
theorem dX5_add_12 : decode cX5_add 12 = .ok (.aload_n 0, 1) := by decide +kernel
theorem dX5_add_13 : decode cX5_add 13 = .ok (.getfield 11, 3) := by decide +kernel
theorem dX5_add_16 : decode cX5_add 16 = .ok (.iload_n 1, 1) := by decide +kernel
theorem dX5_add_17 : decode cX5_add 17 = .ok (.bipush (-9), 2) := by decide +kernel
theorem dX5_add_19 : decode cX5_add 19 = .ok (.isub, 1) := by decide +kernel
theorem dX5_add_20 : decode cX5_add 20 = .ok (.dup2, 1) := by decide +kernel
theorem dX5_add_21 : decode cX5_add 21 = .ok (.iaload, 1) := by decide +kernel
theorem dX5_add_22 : decode cX5_add 22 = .ok (.iconst 1, 1) := by decide +kernel
theorem dX5_add_23 : decode cX5_add 23 = .ok (.iadd, 1) := by decide +kernel
theorem dX5_add_24 : decode cX5_add 24 = .ok (.iastore, 1) := by decide +kernel
theorem dX5_add_25 : decode cX5_add 25 = .ok (.return_, 1) := by decide +kernel
theorem dX5_unlike_0 : decode cX5_unlike 0 = .ok (.iconst 0, 1) := by decide +kernel
theorem dX5_unlike_1 : decode cX5_unlike 1 = .ok (.istore_n 1, 1) := by decide +kernel
theorem dX5_unlike_2 : decode cX5_unlike 2 = .ok (.iconst 0, 1) := by decide +kernel
theorem dX5_unlike_3 : decode cX5_unlike 3 = .ok (.istore_n 2, 1) := by decide +kernel
theorem dX5_unlike_4 : decode cX5_unlike 4 = .ok (.iload_n 2, 1) := by decide +kernel
theorem dX5_unlike_5 : decode cX5_unlike 5 = .ok (.aload_n 0, 1) := by decide +kernel
theorem dX5_unlike_6 : decode cX5_unlike 6 = .ok (.getfield 11, 3) := by decide +kernel
theorem dX5_unlike_9 : decode cX5_unlike 9 = .ok (.arraylength, 1) := by decide +kernel
theorem dX5_unlike_10 : decode cX5_unlike 10 = .ok (.if_icmp .ge 21, 3) := by decide +kernel
theorem dX5_unlike_13 : decode cX5_unlike 13 = .ok (.aload_n 0, 1) := by decide +kernel
theorem dX5_unlike_14 : decode cX5_unlike 14 = .ok (.getfield 11, 3) := by decide +kernel
theorem dX5_unlike_17 : decode cX5_unlike 17 = .ok (.iload_n 2, 1) := by decide +kernel
theorem dX5_unlike_18 : decode cX5_unlike 18 = .ok (.iaload, 1) := by decide +kernel
theorem dX5_unlike_19 : decode cX5_unlike 19 = .ok (.ifCond .le 6, 3) := by decide +kernel
theorem dX5_unlike_22 : decode cX5_unlike 22 = .ok (.iinc 1 1, 3) := by decide +kernel
theorem dX5_unlike_25 : decode cX5_unlike 25 = .ok (.iinc 2 1, 3) := by decide +kernel
theorem dX5_unlike_28 : decode cX5_unlike 28 = .ok (.goto (-24), 3) := by decide +kernel
theorem dX5_unlike_31 : decode cX5_unlike 31 = .ok (.iload_n 1, 1) := by decide +kernel
theorem dX5_unlike_32 : decode cX5_unlike 32 = .ok (.ireturn, 1) := by decide +kernel
theorem dX5_upTo_0 : decode cX5_upTo 0 = .ok (.iconst 0, 1) := by decide +kernel
theorem dX5_upTo_1 : decode cX5_upTo 1 = .ok (.istore_n 2, 1) := by decide +kernel
theorem dX5_upTo_2 : decode cX5_upTo 2 = .ok (.iconst 0, 1) := by decide +kernel
theorem dX5_upTo_3 : decode cX5_upTo 3 = .ok (.istore_n 3, 1) := by decide +kernel
theorem dX5_upTo_4 : decode cX5_upTo 4 = .ok (.iload_n 3, 1) := by decide +kernel
theorem dX5_upTo_5 : decode cX5_upTo 5 = .ok (.aload_n 0, 1) := by decide +kernel
theorem dX5_upTo_6 : decode cX5_upTo 6 = .ok (.getfield 11, 3) := by decide +kernel
theorem dX5_upTo_9 : decode cX5_upTo 9 = .ok (.arraylength, 1) := by decide +kernel
theorem dX5_upTo_10 : decode cX5_upTo 10 = .ok (.if_icmp .ge 26, 3) := by decide +kernel
theorem dX5_upTo_13 : decode cX5_upTo 13 = .ok (.iload_n 3, 1) := by decide +kernel
theorem dX5_upTo_14 : decode cX5_upTo 14 = .ok (.bipush (-9), 2) := by decide +kernel
theorem dX5_upTo_16 : decode cX5_upTo 16 = .ok (.iadd, 1) := by decide +kernel
theorem dX5_upTo_17 : decode cX5_upTo 17 = .ok (.iload_n 1, 1) := by decide +kernel
theorem dX5_upTo_18 : decode cX5_upTo 18 = .ok (.if_icmp .gt 18, 3) := by decide +kernel
theorem dX5_upTo_21 : decode cX5_upTo 21 = .ok (.iload_n 2, 1) := by decide +kernel
theorem dX5_upTo_22 : decode cX5_upTo 22 = .ok (.aload_n 0, 1) := by decide +kernel
theorem dX5_upTo_23 : decode cX5_upTo 23 = .ok (.getfield 11, 3) := by decide +kernel
theorem dX5_upTo_26 : decode cX5_upTo 26 = .ok (.iload_n 3, 1) := by decide +kernel
theorem dX5_upTo_27 : decode cX5_upTo 27 = .ok (.iaload, 1) := by decide +kernel
theorem dX5_upTo_28 : decode cX5_upTo 28 = .ok (.iadd, 1) := by decide +kernel
theorem dX5_upTo_29 : decode cX5_upTo 29 = .ok (.istore_n 2, 1) := by decide +kernel
theorem dX5_upTo_30 : decode cX5_upTo 30 = .ok (.iinc 3 1, 3) := by decide +kernel
theorem dX5_upTo_33 : decode cX5_upTo 33 = .ok (.goto (-29), 3) := by decide +kernel
theorem dX5_upTo_36 : decode cX5_upTo 36 = .ok (.iload_n 2, 1) := by decide +kernel
theorem dX5_upTo_37 : decode cX5_upTo 37 = .ok (.ireturn, 1) := by decide +kernel
theorem dX5_row_0 : decode cX5_row 0 = .ok (.iconst 0, 1) := by decide +kernel
theorem dX5_row_1 : decode cX5_row 1 = .ok (.istore_n 3, 1) := by decide +kernel
theorem dX5_row_2 : decode cX5_row 2 = .ok (.iconst 0, 1) := by decide +kernel
theorem dX5_row_3 : decode cX5_row 3 = .ok (.istore 4, 2) := by decide +kernel
theorem dX5_row_5 : decode cX5_row 5 = .ok (.iload 4, 2) := by decide +kernel
theorem dX5_row_7 : decode cX5_row 7 = .ok (.aload_n 0, 1) := by decide +kernel
theorem dX5_row_8 : decode cX5_row 8 = .ok (.getfield 11, 3) := by decide +kernel
theorem dX5_row_11 : decode cX5_row 11 = .ok (.arraylength, 1) := by decide +kernel
theorem dX5_row_12 : decode cX5_row 12 = .ok (.if_icmp .ge 47, 3) := by decide +kernel
theorem dX5_row_15 : decode cX5_row 15 = .ok (.aload_n 0, 1) := by decide +kernel
theorem dX5_row_16 : decode cX5_row 16 = .ok (.getfield 11, 3) := by decide +kernel
theorem dX5_row_19 : decode cX5_row 19 = .ok (.iload 4, 2) := by decide +kernel
theorem dX5_row_21 : decode cX5_row 21 = .ok (.iaload, 1) := by decide +kernel
theorem dX5_row_22 : decode cX5_row 22 = .ok (.ifCond .le 31, 3) := by decide +kernel
theorem dX5_row_25 : decode cX5_row 25 = .ok (.iload_n 3, 1) := by decide +kernel
theorem dX5_row_26 : decode cX5_row 26 = .ok (.iload_n 1, 1) := by decide +kernel
theorem dX5_row_27 : decode cX5_row 27 = .ok (.if_icmp .ne 23, 3) := by decide +kernel
theorem dX5_row_30 : decode cX5_row 30 = .ok (.iload_n 2, 1) := by decide +kernel
theorem dX5_row_31 : decode cX5_row 31 = .ok (.ifCond .eq 13, 3) := by decide +kernel
theorem dX5_row_34 : decode cX5_row 34 = .ok (.aload_n 0, 1) := by decide +kernel
theorem dX5_row_35 : decode cX5_row 35 = .ok (.getfield 11, 3) := by decide +kernel
theorem dX5_row_38 : decode cX5_row 38 = .ok (.iload 4, 2) := by decide +kernel
theorem dX5_row_40 : decode cX5_row 40 = .ok (.iaload, 1) := by decide +kernel
theorem dX5_row_41 : decode cX5_row 41 = .ok (.goto 8, 3) := by decide +kernel
theorem dX5_row_44 : decode cX5_row 44 = .ok (.iload 4, 2) := by decide +kernel
theorem dX5_row_46 : decode cX5_row 46 = .ok (.bipush (-9), 2) := by decide +kernel
theorem dX5_row_48 : decode cX5_row 48 = .ok (.iadd, 1) := by decide +kernel
theorem dX5_row_49 : decode cX5_row 49 = .ok (.ireturn, 1) := by decide +kernel
theorem dX5_row_50 : decode cX5_row 50 = .ok (.iinc 3 1, 3) := by decide +kernel
theorem dX5_row_53 : decode cX5_row 53 = .ok (.iinc 4 1, 3) := by decide +kernel
theorem dX5_row_56 : decode cX5_row 56 = .ok (.goto (-51), 3) := by decide +kernel
theorem dX5_row_59 : decode cX5_row 59 = .ok (.ldc 21, 2) := by decide +kernel
theorem dX5_row_61 : decode cX5_row 61 = .ok (.ireturn, 1) := by decide +kernel
theorem dX6_init_0 : decode cX6_init 0 = .ok (.aload_n 0, 1) := by decide +kernel
theorem dX6_init_1 : decode cX6_init 1 = .ok (.invokespecial 1, 3) := by decide +kernel
theorem dX6_init_4 : decode cX6_init 4 = .ok (.aload_n 0, 1) := by decide +kernel
theorem dX6_init_5 : decode cX6_init 5 = .ok (.bipush 60, 2) := by decide +kernel
theorem dX6_init_7 : decode cX6_init 7 = .ok (.newarray .int, 2) := by decide +kernel
theorem dX6_init_9 : decode cX6_init 9 = .ok (.putfield 9, 3) := by decide +kernel
theorem dX6_init_12 : decode cX6_init 12 = .ok (.return_, 1) := by decide +kernel
theorem dX6_append_0 : decode cX6_append 0 = .ok (.aload_n 0, 1) := by decide +kernel
theorem dX6_append_1 : decode cX6_append 1 = .ok (.getfield 13, 3) := by decide +kernel
theorem dX6_append_4 : decode cX6_append 4 = .ok (.bipush 60, 2) := by decide +kernel
theorem dX6_append_6 : decode cX6_append 6 = .ok (.if_icmp .lt 5, 3) := by decide +kernel
theorem dX6_append_9 : decode cX6_append 9 = .ok (.iconst 0, 1) := by decide +kernel
theorem dX6_append_10 : decode cX6_append 10 = .ok (.ireturn, 1) := by decide +kernel
theorem dX6_append_11 : decode cX6_append 11 = .ok (.aload_n 0, 1) := by decide +kernel
theorem dX6_append_12 : decode cX6_append 12 = .ok (.getfield 9, 3) := by decide +kernel
theorem dX6_append_15 : decode cX6_append 15 = .ok (.aload_n 0, 1) := by decide +kernel
theorem dX6_append_16 : decode cX6_append 16 = .ok (.getfield 13, 3) := by decide +kernel
theorem dX6_append_19 : decode cX6_append 19 = .ok (.iload_n 1, 1) := by decide +kernel
theorem dX6_append_20 : decode cX6_append 20 = .ok (.iastore, 1) := by decide +kernel
theorem dX6_append_21 : decode cX6_append 21 = .ok (.aload_n 0, 1) := by decide +kernel
theorem dX6_append_22 : decode cX6_append 22 = .ok (.dup, 1) := by decide +kernel
theorem dX6_append_23 : decode cX6_append 23 = .ok (.getfield 13, 3) := by decide +kernel
theorem dX6_append_26 : decode cX6_append 26 = .ok (.iconst 1, 1) := by decide +kernel
theorem dX6_append_27 : decode cX6_append 27 = .ok (.iadd, 1) := by decide +kernel
theorem dX6_append_28 : decode cX6_append 28 = .ok (.putfield 13, 3) := by decide +kernel
theorem dX6_append_31 : decode cX6_append 31 = .ok (.iconst 1, 1) := by decide +kernel
theorem dX6_append_32 : decode cX6_append 32 = .ok (.ireturn, 1) := by decide +kernel
theorem dX6_current_0 : decode cX6_current 0 = .ok (.aload_n 0, 1) := by decide +kernel
theorem dX6_current_1 : decode cX6_current 1 = .ok (.getfield 17, 3) := by decide +kernel
theorem dX6_current_4 : decode cX6_current 4 = .ok (.aload_n 0, 1) := by decide +kernel
theorem dX6_current_5 : decode cX6_current 5 = .ok (.getfield 13, 3) := by decide +kernel
theorem dX6_current_8 : decode cX6_current 8 = .ok (.if_icmp .ge 15, 3) := by decide +kernel
theorem dX6_current_11 : decode cX6_current 11 = .ok (.aload_n 0, 1) := by decide +kernel
theorem dX6_current_12 : decode cX6_current 12 = .ok (.getfield 9, 3) := by decide +kernel
theorem dX6_current_15 : decode cX6_current 15 = .ok (.aload_n 0, 1) := by decide +kernel
theorem dX6_current_16 : decode cX6_current 16 = .ok (.getfield 17, 3) := by decide +kernel
theorem dX6_current_19 : decode cX6_current 19 = .ok (.iaload, 1) := by decide +kernel
theorem dX6_current_20 : decode cX6_current 20 = .ok (.goto 4, 3) := by decide +kernel
theorem dX6_current_23 : decode cX6_current 23 = .ok (.iconst (-1), 1) := by decide +kernel
theorem dX6_current_24 : decode cX6_current 24 = .ok (.ireturn, 1) := by decide +kernel
theorem dX6_isAtEnd_0 : decode cX6_isAtEnd 0 = .ok (.aload_n 0, 1) := by decide +kernel
theorem dX6_isAtEnd_1 : decode cX6_isAtEnd 1 = .ok (.getfield 17, 3) := by decide +kernel
theorem dX6_isAtEnd_4 : decode cX6_isAtEnd 4 = .ok (.aload_n 0, 1) := by decide +kernel
theorem dX6_isAtEnd_5 : decode cX6_isAtEnd 5 = .ok (.getfield 13, 3) := by decide +kernel
theorem dX6_isAtEnd_8 : decode cX6_isAtEnd 8 = .ok (.if_icmp .lt 7, 3) := by decide +kernel
theorem dX6_isAtEnd_11 : decode cX6_isAtEnd 11 = .ok (.iconst 1, 1) := by decide +kernel
theorem dX6_isAtEnd_12 : decode cX6_isAtEnd 12 = .ok (.goto 4, 3) := by decide +kernel
theorem dX6_isAtEnd_15 : decode cX6_isAtEnd 15 = .ok (.iconst 0, 1) := by decide +kernel
theorem dX6_isAtEnd_16 : decode cX6_isAtEnd 16 = .ok (.ireturn, 1) := by decide +kernel
theorem dX6_readBoat_0 : decode cX6_readBoat 0 = .ok (.aload_n 0, 1) := by decide +kernel
theorem dX6_readBoat_1 : decode cX6_readBoat 1 = .ok (.aload_n 0, 1) := by decide +kernel
theorem dX6_readBoat_2 : decode cX6_readBoat 2 = .ok (.invokevirtual 20, 3) := by decide +kernel
theorem dX6_readBoat_5 : decode cX6_readBoat 5 = .ok (.putfield 24, 3) := by decide +kernel
theorem dX6_readBoat_8 : decode cX6_readBoat 8 = .ok (.aload_n 0, 1) := by decide +kernel
theorem dX6_readBoat_9 : decode cX6_readBoat 9 = .ok (.getfield 24, 3) := by decide +kernel
theorem dX6_readBoat_12 : decode cX6_readBoat 12 = .ok (.ifCond .eq 10, 3) := by decide +kernel
theorem dX6_readBoat_15 : decode cX6_readBoat 15 = .ok (.aload_n 0, 1) := by decide +kernel
theorem dX6_readBoat_16 : decode cX6_readBoat 16 = .ok (.invokevirtual 27, 3) := by decide +kernel
theorem dX6_readBoat_19 : decode cX6_readBoat 19 = .ok (.ifCond .ne 5, 3) := by decide +kernel
theorem dX6_readBoat_22 : decode cX6_readBoat 22 = .ok (.iconst 0, 1) := by decide +kernel
theorem dX6_readBoat_23 : decode cX6_readBoat 23 = .ok (.ireturn, 1) := by decide +kernel
theorem dX6_readBoat_24 : decode cX6_readBoat 24 = .ok (.aload_n 0, 1) := by decide +kernel
theorem dX6_readBoat_25 : decode cX6_readBoat 25 = .ok (.aload_n 0, 1) := by decide +kernel
theorem dX6_readBoat_26 : decode cX6_readBoat 26 = .ok (.bipush 9, 2) := by decide +kernel
theorem dX6_readBoat_28 : decode cX6_readBoat 28 = .ok (.invokevirtual 31, 3) := by decide +kernel
theorem dX6_readBoat_31 : decode cX6_readBoat 31 = .ok (.putfield 35, 3) := by decide +kernel
theorem dX6_readBoat_34 : decode cX6_readBoat 34 = .ok (.aload_n 0, 1) := by decide +kernel
theorem dX6_readBoat_35 : decode cX6_readBoat 35 = .ok (.aload_n 0, 1) := by decide +kernel
theorem dX6_readBoat_36 : decode cX6_readBoat 36 = .ok (.getfield 35, 3) := by decide +kernel
theorem dX6_readBoat_39 : decode cX6_readBoat 39 = .ok (.ifCond .ge 7, 3) := by decide +kernel
theorem dX6_readBoat_42 : decode cX6_readBoat 42 = .ok (.iconst (-1), 1) := by decide +kernel
theorem dX6_readBoat_43 : decode cX6_readBoat 43 = .ok (.goto 9, 3) := by decide +kernel
theorem dX6_readBoat_46 : decode cX6_readBoat 46 = .ok (.aload_n 0, 1) := by decide +kernel
theorem dX6_readBoat_47 : decode cX6_readBoat 47 = .ok (.bipush 9, 2) := by decide +kernel
theorem dX6_readBoat_49 : decode cX6_readBoat 49 = .ok (.invokevirtual 31, 3) := by decide +kernel
theorem dX6_readBoat_52 : decode cX6_readBoat 52 = .ok (.putfield 38, 3) := by decide +kernel
theorem dX6_readBoat_55 : decode cX6_readBoat 55 = .ok (.aload_n 0, 1) := by decide +kernel
theorem dX6_readBoat_56 : decode cX6_readBoat 56 = .ok (.aload_n 0, 1) := by decide +kernel
theorem dX6_readBoat_57 : decode cX6_readBoat 57 = .ok (.getfield 38, 3) := by decide +kernel
theorem dX6_readBoat_60 : decode cX6_readBoat 60 = .ok (.ifCond .ge 7, 3) := by decide +kernel
theorem dX6_readBoat_63 : decode cX6_readBoat 63 = .ok (.iconst (-1), 1) := by decide +kernel
theorem dX6_readBoat_64 : decode cX6_readBoat 64 = .ok (.goto 8, 3) := by decide +kernel
theorem dX6_readBoat_67 : decode cX6_readBoat 67 = .ok (.aload_n 0, 1) := by decide +kernel
theorem dX6_readBoat_68 : decode cX6_readBoat 68 = .ok (.iload_n 1, 1) := by decide +kernel
theorem dX6_readBoat_69 : decode cX6_readBoat 69 = .ok (.invokevirtual 31, 3) := by decide +kernel
theorem dX6_readBoat_72 : decode cX6_readBoat 72 = .ok (.putfield 41, 3) := by decide +kernel
theorem dX6_readBoat_75 : decode cX6_readBoat 75 = .ok (.aload_n 0, 1) := by decide +kernel
theorem dX6_readBoat_76 : decode cX6_readBoat 76 = .ok (.getfield 41, 3) := by decide +kernel
theorem dX6_readBoat_79 : decode cX6_readBoat 79 = .ok (.ifCond .lt 7, 3) := by decide +kernel
theorem dX6_readBoat_82 : decode cX6_readBoat 82 = .ok (.iconst 1, 1) := by decide +kernel
theorem dX6_readBoat_83 : decode cX6_readBoat 83 = .ok (.goto 4, 3) := by decide +kernel
theorem dX6_readBoat_86 : decode cX6_readBoat 86 = .ok (.iconst 0, 1) := by decide +kernel
theorem dX6_readBoat_87 : decode cX6_readBoat 87 = .ok (.ireturn, 1) := by decide +kernel
theorem dX6_readName_0 : decode cX6_readName 0 = .ok (.iconst 0, 1) := by decide +kernel
theorem dX6_readName_1 : decode cX6_readName 1 = .ok (.istore_n 1, 1) := by decide +kernel
theorem dX6_readName_2 : decode cX6_readName 2 = .ok (.iconst 0, 1) := by decide +kernel
theorem dX6_readName_3 : decode cX6_readName 3 = .ok (.istore_n 2, 1) := by decide +kernel
theorem dX6_readName_4 : decode cX6_readName 4 = .ok (.iload_n 2, 1) := by decide +kernel
theorem dX6_readName_5 : decode cX6_readName 5 = .ok (.iconst 4, 1) := by decide +kernel
theorem dX6_readName_6 : decode cX6_readName 6 = .ok (.if_icmp .ge 69, 3) := by decide +kernel
theorem dX6_readName_9 : decode cX6_readName 9 = .ok (.aload_n 0, 1) := by decide +kernel
theorem dX6_readName_10 : decode cX6_readName 10 = .ok (.invokevirtual 44, 3) := by decide +kernel
theorem dX6_readName_13 : decode cX6_readName 13 = .ok (.istore_n 3, 1) := by decide +kernel
theorem dX6_readName_14 : decode cX6_readName 14 = .ok (.iload_n 3, 1) := by decide +kernel
theorem dX6_readName_15 : decode cX6_readName 15 = .ok (.bipush 97, 2) := by decide +kernel
theorem dX6_readName_17 : decode cX6_readName 17 = .ok (.if_icmp .lt 13, 3) := by decide +kernel
theorem dX6_readName_20 : decode cX6_readName 20 = .ok (.iload_n 3, 1) := by decide +kernel
theorem dX6_readName_21 : decode cX6_readName 21 = .ok (.bipush 122, 2) := by decide +kernel
theorem dX6_readName_23 : decode cX6_readName 23 = .ok (.if_icmp .gt 7, 3) := by decide +kernel
theorem dX6_readName_26 : decode cX6_readName 26 = .ok (.iconst 1, 1) := by decide +kernel
theorem dX6_readName_27 : decode cX6_readName 27 = .ok (.goto 4, 3) := by decide +kernel
theorem dX6_readName_30 : decode cX6_readName 30 = .ok (.iconst 0, 1) := by decide +kernel
theorem dX6_readName_31 : decode cX6_readName 31 = .ok (.istore 4, 2) := by decide +kernel
theorem dX6_readName_33 : decode cX6_readName 33 = .ok (.iload_n 1, 1) := by decide +kernel
theorem dX6_readName_34 : decode cX6_readName 34 = .ok (.bipush 27, 2) := by decide +kernel
theorem dX6_readName_36 : decode cX6_readName 36 = .ok (.imul, 1) := by decide +kernel
theorem dX6_readName_37 : decode cX6_readName 37 = .ok (.iload 4, 2) := by decide +kernel
theorem dX6_readName_39 : decode cX6_readName 39 = .ok (.ifCond .eq 12, 3) := by decide +kernel
theorem dX6_readName_42 : decode cX6_readName 42 = .ok (.iload_n 3, 1) := by decide +kernel
theorem dX6_readName_43 : decode cX6_readName 43 = .ok (.bipush 97, 2) := by decide +kernel
theorem dX6_readName_45 : decode cX6_readName 45 = .ok (.isub, 1) := by decide +kernel
theorem dX6_readName_46 : decode cX6_readName 46 = .ok (.iconst 1, 1) := by decide +kernel
theorem dX6_readName_47 : decode cX6_readName 47 = .ok (.iadd, 1) := by decide +kernel
theorem dX6_readName_48 : decode cX6_readName 48 = .ok (.goto 4, 3) := by decide +kernel
theorem dX6_readName_51 : decode cX6_readName 51 = .ok (.iconst 0, 1) := by decide +kernel
theorem dX6_readName_52 : decode cX6_readName 52 = .ok (.iadd, 1) := by decide +kernel
theorem dX6_readName_53 : decode cX6_readName 53 = .ok (.istore_n 1, 1) := by decide +kernel
theorem dX6_readName_54 : decode cX6_readName 54 = .ok (.iload 4, 2) := by decide +kernel
theorem dX6_readName_56 : decode cX6_readName 56 = .ok (.ifCond .eq 13, 3) := by decide +kernel
theorem dX6_readName_59 : decode cX6_readName 59 = .ok (.aload_n 0, 1) := by decide +kernel
theorem dX6_readName_60 : decode cX6_readName 60 = .ok (.dup, 1) := by decide +kernel
theorem dX6_readName_61 : decode cX6_readName 61 = .ok (.getfield 17, 3) := by decide +kernel
theorem dX6_readName_64 : decode cX6_readName 64 = .ok (.iconst 1, 1) := by decide +kernel
theorem dX6_readName_65 : decode cX6_readName 65 = .ok (.iadd, 1) := by decide +kernel
theorem dX6_readName_66 : decode cX6_readName 66 = .ok (.putfield 17, 3) := by decide +kernel
theorem dX6_readName_69 : decode cX6_readName 69 = .ok (.iinc 2 1, 3) := by decide +kernel
theorem dX6_readName_72 : decode cX6_readName 72 = .ok (.goto (-68), 3) := by decide +kernel
theorem dX6_readName_75 : decode cX6_readName 75 = .ok (.iload_n 1, 1) := by decide +kernel
theorem dX6_readName_76 : decode cX6_readName 76 = .ok (.ireturn, 1) := by decide +kernel
theorem dX6_readWay_0 : decode cX6_readWay 0 = .ok (.aload_n 0, 1) := by decide +kernel
theorem dX6_readWay_1 : decode cX6_readWay 1 = .ok (.invokevirtual 44, 3) := by decide +kernel
theorem dX6_readWay_4 : decode cX6_readWay 4 = .ok (.istore_n 1, 1) := by decide +kernel
theorem dX6_readWay_5 : decode cX6_readWay 5 = .ok (.iload_n 1, 1) := by decide +kernel
theorem dX6_readWay_6 : decode cX6_readWay 6 = .ok (.bipush 43, 2) := by decide +kernel
theorem dX6_readWay_8 : decode cX6_readWay 8 = .ok (.if_icmp .eq 11, 3) := by decide +kernel
theorem dX6_readWay_11 : decode cX6_readWay 11 = .ok (.iload_n 1, 1) := by decide +kernel
theorem dX6_readWay_12 : decode cX6_readWay 12 = .ok (.bipush 45, 2) := by decide +kernel
theorem dX6_readWay_14 : decode cX6_readWay 14 = .ok (.if_icmp .eq 5, 3) := by decide +kernel
theorem dX6_readWay_17 : decode cX6_readWay 17 = .ok (.iconst 0, 1) := by decide +kernel
theorem dX6_readWay_18 : decode cX6_readWay 18 = .ok (.ireturn, 1) := by decide +kernel
theorem dX6_readWay_19 : decode cX6_readWay 19 = .ok (.aload_n 0, 1) := by decide +kernel
theorem dX6_readWay_20 : decode cX6_readWay 20 = .ok (.iload_n 1, 1) := by decide +kernel
theorem dX6_readWay_21 : decode cX6_readWay 21 = .ok (.bipush 43, 2) := by decide +kernel
theorem dX6_readWay_23 : decode cX6_readWay 23 = .ok (.if_icmp .ne 7, 3) := by decide +kernel
theorem dX6_readWay_26 : decode cX6_readWay 26 = .ok (.iconst 1, 1) := by decide +kernel
theorem dX6_readWay_27 : decode cX6_readWay 27 = .ok (.goto 4, 3) := by decide +kernel
theorem dX6_readWay_30 : decode cX6_readWay 30 = .ok (.iconst 0, 1) := by decide +kernel
theorem dX6_readWay_31 : decode cX6_readWay 31 = .ok (.putfield 47, 3) := by decide +kernel
theorem dX6_readWay_34 : decode cX6_readWay 34 = .ok (.aload_n 0, 1) := by decide +kernel
theorem dX6_readWay_35 : decode cX6_readWay 35 = .ok (.dup, 1) := by decide +kernel
theorem dX6_readWay_36 : decode cX6_readWay 36 = .ok (.getfield 17, 3) := by decide +kernel
theorem dX6_readWay_39 : decode cX6_readWay 39 = .ok (.iconst 1, 1) := by decide +kernel
theorem dX6_readWay_40 : decode cX6_readWay 40 = .ok (.iadd, 1) := by decide +kernel
theorem dX6_readWay_41 : decode cX6_readWay 41 = .ok (.putfield 17, 3) := by decide +kernel
theorem dX6_readWay_44 : decode cX6_readWay 44 = .ok (.iconst 1, 1) := by decide +kernel
theorem dX6_readWay_45 : decode cX6_readWay 45 = .ok (.ireturn, 1) := by decide +kernel
theorem dX6_readFigure_0 : decode cX6_readFigure 0 = .ok (.aload_n 0, 1) := by decide +kernel
theorem dX6_readFigure_1 : decode cX6_readFigure 1 = .ok (.invokevirtual 44, 3) := by decide +kernel
theorem dX6_readFigure_4 : decode cX6_readFigure 4 = .ok (.bipush 48, 2) := by decide +kernel
theorem dX6_readFigure_6 : decode cX6_readFigure 6 = .ok (.isub, 1) := by decide +kernel
theorem dX6_readFigure_7 : decode cX6_readFigure 7 = .ok (.istore_n 2, 1) := by decide +kernel
theorem dX6_readFigure_8 : decode cX6_readFigure 8 = .ok (.iload_n 2, 1) := by decide +kernel
theorem dX6_readFigure_9 : decode cX6_readFigure 9 = .ok (.ifCond .lt 8, 3) := by decide +kernel
theorem dX6_readFigure_12 : decode cX6_readFigure 12 = .ok (.iload_n 2, 1) := by decide +kernel
theorem dX6_readFigure_13 : decode cX6_readFigure 13 = .ok (.iload_n 1, 1) := by decide +kernel
theorem dX6_readFigure_14 : decode cX6_readFigure 14 = .ok (.if_icmp .le 5, 3) := by decide +kernel
theorem dX6_readFigure_17 : decode cX6_readFigure 17 = .ok (.iconst (-1), 1) := by decide +kernel
theorem dX6_readFigure_18 : decode cX6_readFigure 18 = .ok (.ireturn, 1) := by decide +kernel
theorem dX6_readFigure_19 : decode cX6_readFigure 19 = .ok (.aload_n 0, 1) := by decide +kernel
theorem dX6_readFigure_20 : decode cX6_readFigure 20 = .ok (.dup, 1) := by decide +kernel
theorem dX6_readFigure_21 : decode cX6_readFigure 21 = .ok (.getfield 17, 3) := by decide +kernel
theorem dX6_readFigure_24 : decode cX6_readFigure 24 = .ok (.iconst 1, 1) := by decide +kernel
theorem dX6_readFigure_25 : decode cX6_readFigure 25 = .ok (.iadd, 1) := by decide +kernel
theorem dX6_readFigure_26 : decode cX6_readFigure 26 = .ok (.putfield 17, 3) := by decide +kernel
theorem dX6_readFigure_29 : decode cX6_readFigure 29 = .ok (.iload_n 2, 1) := by decide +kernel
theorem dX6_readFigure_30 : decode cX6_readFigure 30 = .ok (.ireturn, 1) := by decide +kernel
theorem dX6_readComma_0 : decode cX6_readComma 0 = .ok (.aload_n 0, 1) := by decide +kernel
theorem dX6_readComma_1 : decode cX6_readComma 1 = .ok (.invokevirtual 44, 3) := by decide +kernel
theorem dX6_readComma_4 : decode cX6_readComma 4 = .ok (.bipush 44, 2) := by decide +kernel
theorem dX6_readComma_6 : decode cX6_readComma 6 = .ok (.if_icmp .eq 5, 3) := by decide +kernel
theorem dX6_readComma_9 : decode cX6_readComma 9 = .ok (.iconst 0, 1) := by decide +kernel
theorem dX6_readComma_10 : decode cX6_readComma 10 = .ok (.ireturn, 1) := by decide +kernel
theorem dX6_readComma_11 : decode cX6_readComma 11 = .ok (.aload_n 0, 1) := by decide +kernel
theorem dX6_readComma_12 : decode cX6_readComma 12 = .ok (.dup, 1) := by decide +kernel
theorem dX6_readComma_13 : decode cX6_readComma 13 = .ok (.getfield 17, 3) := by decide +kernel
theorem dX6_readComma_16 : decode cX6_readComma 16 = .ok (.iconst 1, 1) := by decide +kernel
theorem dX6_readComma_17 : decode cX6_readComma 17 = .ok (.iadd, 1) := by decide +kernel
theorem dX6_readComma_18 : decode cX6_readComma 18 = .ok (.putfield 17, 3) := by decide +kernel
theorem dX6_readComma_21 : decode cX6_readComma 21 = .ok (.iconst 1, 1) := by decide +kernel
theorem dX6_readComma_22 : decode cX6_readComma 22 = .ok (.ireturn, 1) := by decide +kernel
theorem dX7_init_0 : decode cX7_init 0 = .ok (.aload_n 0, 1) := by decide +kernel
theorem dX7_init_1 : decode cX7_init 1 = .ok (.invokespecial 3, 3) := by decide +kernel
theorem dX7_init_4 : decode cX7_init 4 = .ok (.return_, 1) := by decide +kernel
theorem dX7_begin_0 : decode cX7_begin 0 = .ok (.aload_n 0, 1) := by decide +kernel
theorem dX7_begin_1 : decode cX7_begin 1 = .ok (.aload_n 2, 1) := by decide +kernel
theorem dX7_begin_2 : decode cX7_begin 2 = .ok (.getfield 9, 3) := by decide +kernel
theorem dX7_begin_5 : decode cX7_begin 5 = .ok (.bipush 6, 2) := by decide +kernel
theorem dX7_begin_7 : decode cX7_begin 7 = .ok (.invokestatic 17, 3) := by decide +kernel
theorem dX7_begin_10 : decode cX7_begin 10 = .ok (.putfield 23, 3) := by decide +kernel
theorem dX7_begin_13 : decode cX7_begin 13 = .ok (.aload_n 0, 1) := by decide +kernel
theorem dX7_begin_14 : decode cX7_begin 14 = .ok (.aload_n 0, 1) := by decide +kernel
theorem dX7_begin_15 : decode cX7_begin 15 = .ok (.getfield 23, 3) := by decide +kernel
theorem dX7_begin_18 : decode cX7_begin 18 = .ok (.aload_n 1, 1) := by decide +kernel
theorem dX7_begin_19 : decode cX7_begin 19 = .ok (.getfield 9, 3) := by decide +kernel
theorem dX7_begin_22 : decode cX7_begin 22 = .ok (.bipush 6, 2) := by decide +kernel
theorem dX7_begin_24 : decode cX7_begin 24 = .ok (.invokestatic 17, 3) := by decide +kernel
theorem dX7_begin_27 : decode cX7_begin 27 = .ok (.iadd, 1) := by decide +kernel
theorem dX7_begin_28 : decode cX7_begin 28 = .ok (.putfield 26, 3) := by decide +kernel
theorem dX7_begin_31 : decode cX7_begin 31 = .ok (.aload_n 0, 1) := by decide +kernel
theorem dX7_begin_32 : decode cX7_begin 32 = .ok (.iconst 0, 1) := by decide +kernel
theorem dX7_begin_33 : decode cX7_begin 33 = .ok (.putfield 29, 3) := by decide +kernel
theorem dX7_begin_36 : decode cX7_begin 36 = .ok (.aload_n 0, 1) := by decide +kernel
theorem dX7_begin_37 : decode cX7_begin 37 = .ok (.iconst 0, 1) := by decide +kernel
theorem dX7_begin_38 : decode cX7_begin 38 = .ok (.putfield 32, 3) := by decide +kernel
theorem dX7_begin_41 : decode cX7_begin 41 = .ok (.aload_n 0, 1) := by decide +kernel
theorem dX7_begin_42 : decode cX7_begin 42 = .ok (.iconst 0, 1) := by decide +kernel
theorem dX7_begin_43 : decode cX7_begin 43 = .ok (.putfield 35, 3) := by decide +kernel
theorem dX7_begin_46 : decode cX7_begin 46 = .ok (.return_, 1) := by decide +kernel
theorem dX7_isOrder_0 : decode cX7_isOrder 0 = .ok (.iload_n 1, 1) := by decide +kernel
theorem dX7_isOrder_1 : decode cX7_isOrder 1 = .ok (.invokestatic 38, 3) := by decide +kernel
theorem dX7_isOrder_4 : decode cX7_isOrder 4 = .ok (.aload_n 0, 1) := by decide +kernel
theorem dX7_isOrder_5 : decode cX7_isOrder 5 = .ok (.getfield 23, 3) := by decide +kernel
theorem dX7_isOrder_8 : decode cX7_isOrder 8 = .ok (.if_icmp .ne 7, 3) := by decide +kernel
theorem dX7_isOrder_11 : decode cX7_isOrder 11 = .ok (.iconst 1, 1) := by decide +kernel
theorem dX7_isOrder_12 : decode cX7_isOrder 12 = .ok (.goto 4, 3) := by decide +kernel
theorem dX7_isOrder_15 : decode cX7_isOrder 15 = .ok (.iconst 0, 1) := by decide +kernel
theorem dX7_isOrder_16 : decode cX7_isOrder 16 = .ok (.ireturn, 1) := by decide +kernel
theorem dX7_isFromBelow_0 : decode cX7_isFromBelow 0 = .ok (.iload_n 1, 1) := by decide +kernel
theorem dX7_isFromBelow_1 : decode cX7_isFromBelow 1 = .ok (.aload_n 0, 1) := by decide +kernel
theorem dX7_isFromBelow_2 : decode cX7_isFromBelow 2 = .ok (.getfield 26, 3) := by decide +kernel
theorem dX7_isFromBelow_5 : decode cX7_isFromBelow 5 = .ok (.iconst 1, 1) := by decide +kernel
theorem dX7_isFromBelow_6 : decode cX7_isFromBelow 6 = .ok (.isub, 1) := by decide +kernel
theorem dX7_isFromBelow_7 : decode cX7_isFromBelow 7 = .ok (.iload_n 2, 1) := by decide +kernel
theorem dX7_isFromBelow_8 : decode cX7_isFromBelow 8 = .ok (.isub, 1) := by decide +kernel
theorem dX7_isFromBelow_9 : decode cX7_isFromBelow 9 = .ok (.ishr, 1) := by decide +kernel
theorem dX7_isFromBelow_10 : decode cX7_isFromBelow 10 = .ok (.iconst 1, 1) := by decide +kernel
theorem dX7_isFromBelow_11 : decode cX7_isFromBelow 11 = .ok (.iand, 1) := by decide +kernel
theorem dX7_isFromBelow_12 : decode cX7_isFromBelow 12 = .ok (.ifCond .ne 7, 3) := by decide +kernel
theorem dX7_isFromBelow_15 : decode cX7_isFromBelow 15 = .ok (.iconst 1, 1) := by decide +kernel
theorem dX7_isFromBelow_16 : decode cX7_isFromBelow 16 = .ok (.goto 4, 3) := by decide +kernel
theorem dX7_isFromBelow_19 : decode cX7_isFromBelow 19 = .ok (.iconst 0, 1) := by decide +kernel
theorem dX7_isFromBelow_20 : decode cX7_isFromBelow 20 = .ok (.ireturn, 1) := by decide +kernel
theorem dX7_weigh_0 : decode cX7_weigh 0 = .ok (.iload_n 2, 1) := by decide +kernel
theorem dX7_weigh_1 : decode cX7_weigh 1 = .ok (.ldc 44, 2) := by decide +kernel
theorem dX7_weigh_3 : decode cX7_weigh 3 = .ok (.if_icmp .ne 4, 3) := by decide +kernel
theorem dX7_weigh_6 : decode cX7_weigh 6 = .ok (.return_, 1) := by decide +kernel
theorem dX7_weigh_7 : decode cX7_weigh 7 = .ok (.aload_n 0, 1) := by decide +kernel
theorem dX7_weigh_8 : decode cX7_weigh 8 = .ok (.getfield 29, 3) := by decide +kernel
theorem dX7_weigh_11 : decode cX7_weigh 11 = .ok (.ifCond .eq 11, 3) := by decide +kernel
theorem dX7_weigh_14 : decode cX7_weigh 14 = .ok (.iload_n 2, 1) := by decide +kernel
theorem dX7_weigh_15 : decode cX7_weigh 15 = .ok (.aload_n 0, 1) := by decide +kernel
theorem dX7_weigh_16 : decode cX7_weigh 16 = .ok (.getfield 32, 3) := by decide +kernel
theorem dX7_weigh_19 : decode cX7_weigh 19 = .ok (.if_icmp .ge 13, 3) := by decide +kernel
theorem dX7_weigh_22 : decode cX7_weigh 22 = .ok (.aload_n 0, 1) := by decide +kernel
theorem dX7_weigh_23 : decode cX7_weigh 23 = .ok (.iload_n 2, 1) := by decide +kernel
theorem dX7_weigh_24 : decode cX7_weigh 24 = .ok (.putfield 32, 3) := by decide +kernel
theorem dX7_weigh_27 : decode cX7_weigh 27 = .ok (.aload_n 0, 1) := by decide +kernel
theorem dX7_weigh_28 : decode cX7_weigh 28 = .ok (.iload_n 1, 1) := by decide +kernel
theorem dX7_weigh_29 : decode cX7_weigh 29 = .ok (.putfield 35, 3) := by decide +kernel
theorem dX7_weigh_32 : decode cX7_weigh 32 = .ok (.aload_n 0, 1) := by decide +kernel
theorem dX7_weigh_33 : decode cX7_weigh 33 = .ok (.dup, 1) := by decide +kernel
theorem dX7_weigh_34 : decode cX7_weigh 34 = .ok (.getfield 29, 3) := by decide +kernel
theorem dX7_weigh_37 : decode cX7_weigh 37 = .ok (.iconst 1, 1) := by decide +kernel
theorem dX7_weigh_38 : decode cX7_weigh 38 = .ok (.iadd, 1) := by decide +kernel
theorem dX7_weigh_39 : decode cX7_weigh 39 = .ok (.putfield 29, 3) := by decide +kernel
theorem dX7_weigh_42 : decode cX7_weigh 42 = .ok (.return_, 1) := by decide +kernel
theorem dX8_init_0 : decode cX8_init 0 = .ok (.aload_n 0, 1) := by decide +kernel
theorem dX8_init_1 : decode cX8_init 1 = .ok (.invokespecial 5, 3) := by decide +kernel
theorem dX8_init_4 : decode cX8_init 4 = .ok (.aload_n 0, 1) := by decide +kernel
theorem dX8_init_5 : decode cX8_init 5 = .ok (.new 11, 3) := by decide +kernel
theorem dX8_init_8 : decode cX8_init 8 = .ok (.dup, 1) := by decide +kernel
theorem dX8_init_9 : decode cX8_init 9 = .ok (.invokespecial 13, 3) := by decide +kernel
theorem dX8_init_12 : decode cX8_init 12 = .ok (.putfield 14, 3) := by decide +kernel
theorem dX8_init_15 : decode cX8_init 15 = .ok (.aload_n 0, 1) := by decide +kernel
theorem dX8_init_16 : decode cX8_init 16 = .ok (.new 18, 3) := by decide +kernel
theorem dX8_init_19 : decode cX8_init 19 = .ok (.dup, 1) := by decide +kernel
theorem dX8_init_20 : decode cX8_init 20 = .ok (.invokespecial 20, 3) := by decide +kernel
theorem dX8_init_23 : decode cX8_init 23 = .ok (.putfield 21, 3) := by decide +kernel
theorem dX8_init_26 : decode cX8_init 26 = .ok (.aload_n 0, 1) := by decide +kernel
theorem dX8_init_27 : decode cX8_init 27 = .ok (.new 25, 3) := by decide +kernel
theorem dX8_init_30 : decode cX8_init 30 = .ok (.dup, 1) := by decide +kernel
theorem dX8_init_31 : decode cX8_init 31 = .ok (.invokespecial 27, 3) := by decide +kernel
theorem dX8_init_34 : decode cX8_init 34 = .ok (.putfield 28, 3) := by decide +kernel
theorem dX8_init_37 : decode cX8_init 37 = .ok (.aload_n 0, 1) := by decide +kernel
theorem dX8_init_38 : decode cX8_init 38 = .ok (.new 11, 3) := by decide +kernel
theorem dX8_init_41 : decode cX8_init 41 = .ok (.dup, 1) := by decide +kernel
theorem dX8_init_42 : decode cX8_init 42 = .ok (.invokespecial 13, 3) := by decide +kernel
theorem dX8_init_45 : decode cX8_init 45 = .ok (.putfield 32, 3) := by decide +kernel
theorem dX8_init_48 : decode cX8_init 48 = .ok (.aload_n 0, 1) := by decide +kernel
theorem dX8_init_49 : decode cX8_init 49 = .ok (.new 18, 3) := by decide +kernel
theorem dX8_init_52 : decode cX8_init 52 = .ok (.dup, 1) := by decide +kernel
theorem dX8_init_53 : decode cX8_init 53 = .ok (.invokespecial 20, 3) := by decide +kernel
theorem dX8_init_56 : decode cX8_init 56 = .ok (.putfield 35, 3) := by decide +kernel
theorem dX8_init_59 : decode cX8_init 59 = .ok (.aload_n 0, 1) := by decide +kernel
theorem dX8_init_60 : decode cX8_init 60 = .ok (.new 11, 3) := by decide +kernel
theorem dX8_init_63 : decode cX8_init 63 = .ok (.dup, 1) := by decide +kernel
theorem dX8_init_64 : decode cX8_init 64 = .ok (.invokespecial 13, 3) := by decide +kernel
theorem dX8_init_67 : decode cX8_init 67 = .ok (.putfield 38, 3) := by decide +kernel
theorem dX8_init_70 : decode cX8_init 70 = .ok (.aload_n 0, 1) := by decide +kernel
theorem dX8_init_71 : decode cX8_init 71 = .ok (.new 18, 3) := by decide +kernel
theorem dX8_init_74 : decode cX8_init 74 = .ok (.dup, 1) := by decide +kernel
theorem dX8_init_75 : decode cX8_init 75 = .ok (.invokespecial 20, 3) := by decide +kernel
theorem dX8_init_78 : decode cX8_init 78 = .ok (.putfield 41, 3) := by decide +kernel
theorem dX8_init_81 : decode cX8_init 81 = .ok (.aload_n 0, 1) := by decide +kernel
theorem dX8_init_82 : decode cX8_init 82 = .ok (.new 44, 3) := by decide +kernel
theorem dX8_init_85 : decode cX8_init 85 = .ok (.dup, 1) := by decide +kernel
theorem dX8_init_86 : decode cX8_init 86 = .ok (.invokespecial 46, 3) := by decide +kernel
theorem dX8_init_89 : decode cX8_init 89 = .ok (.putfield 47, 3) := by decide +kernel
theorem dX8_init_92 : decode cX8_init 92 = .ok (.aload_n 0, 1) := by decide +kernel
theorem dX8_init_93 : decode cX8_init 93 = .ok (.new 44, 3) := by decide +kernel
theorem dX8_init_96 : decode cX8_init 96 = .ok (.dup, 1) := by decide +kernel
theorem dX8_init_97 : decode cX8_init 97 = .ok (.invokespecial 46, 3) := by decide +kernel
theorem dX8_init_100 : decode cX8_init 100 = .ok (.putfield 51, 3) := by decide +kernel
theorem dX8_init_103 : decode cX8_init 103 = .ok (.aload_n 0, 1) := by decide +kernel
theorem dX8_init_104 : decode cX8_init 104 = .ok (.new 54, 3) := by decide +kernel
theorem dX8_init_107 : decode cX8_init 107 = .ok (.dup, 1) := by decide +kernel
theorem dX8_init_108 : decode cX8_init 108 = .ok (.invokespecial 56, 3) := by decide +kernel
theorem dX8_init_111 : decode cX8_init 111 = .ok (.putfield 57, 3) := by decide +kernel
theorem dX8_init_114 : decode cX8_init 114 = .ok (.aload_n 0, 1) := by decide +kernel
theorem dX8_init_115 : decode cX8_init 115 = .ok (.new 61, 3) := by decide +kernel
theorem dX8_init_118 : decode cX8_init 118 = .ok (.dup, 1) := by decide +kernel
theorem dX8_init_119 : decode cX8_init 119 = .ok (.invokespecial 63, 3) := by decide +kernel
theorem dX8_init_122 : decode cX8_init 122 = .ok (.putfield 64, 3) := by decide +kernel
theorem dX8_init_125 : decode cX8_init 125 = .ok (.aload_n 0, 1) := by decide +kernel
theorem dX8_init_126 : decode cX8_init 126 = .ok (.getfield 14, 3) := by decide +kernel
theorem dX8_init_129 : decode cX8_init 129 = .ok (.iconst 2, 1) := by decide +kernel
theorem dX8_init_130 : decode cX8_init 130 = .ok (.invokevirtual 68, 3) := by decide +kernel
theorem dX8_init_133 : decode cX8_init 133 = .ok (.return_, 1) := by decide +kernel
theorem dX8_locks_0 : decode cX8_locks 0 = .ok (.iload_n 1, 1) := by decide +kernel
theorem dX8_locks_1 : decode cX8_locks 1 = .ok (.iconst 1, 1) := by decide +kernel
theorem dX8_locks_2 : decode cX8_locks 2 = .ok (.if_icmp .lt 9, 3) := by decide +kernel
theorem dX8_locks_5 : decode cX8_locks 5 = .ok (.iload_n 1, 1) := by decide +kernel
theorem dX8_locks_6 : decode cX8_locks 6 = .ok (.bipush 6, 2) := by decide +kernel
theorem dX8_locks_8 : decode cX8_locks 8 = .ok (.if_icmp .le 5, 3) := by decide +kernel
theorem dX8_locks_11 : decode cX8_locks 11 = .ok (.iconst (-1), 1) := by decide +kernel
theorem dX8_locks_12 : decode cX8_locks 12 = .ok (.ireturn, 1) := by decide +kernel
theorem dX8_locks_13 : decode cX8_locks 13 = .ok (.aload_n 0, 1) := by decide +kernel
theorem dX8_locks_14 : decode cX8_locks 14 = .ok (.getfield 14, 3) := by decide +kernel
theorem dX8_locks_17 : decode cX8_locks 17 = .ok (.getfield 72, 3) := by decide +kernel
theorem dX8_locks_20 : decode cX8_locks 20 = .ok (.istore_n 2, 1) := by decide +kernel
theorem dX8_locks_21 : decode cX8_locks 21 = .ok (.aload_n 0, 1) := by decide +kernel
theorem dX8_locks_22 : decode cX8_locks 22 = .ok (.getfield 14, 3) := by decide +kernel
theorem dX8_locks_25 : decode cX8_locks 25 = .ok (.iload_n 1, 1) := by decide +kernel
theorem dX8_locks_26 : decode cX8_locks 26 = .ok (.invokevirtual 68, 3) := by decide +kernel
theorem dX8_locks_29 : decode cX8_locks 29 = .ok (.aload_n 0, 1) := by decide +kernel
theorem dX8_locks_30 : decode cX8_locks 30 = .ok (.getfield 21, 3) := by decide +kernel
theorem dX8_locks_33 : decode cX8_locks 33 = .ok (.iconst 0, 1) := by decide +kernel
theorem dX8_locks_34 : decode cX8_locks 34 = .ok (.putfield 76, 3) := by decide +kernel
theorem dX8_locks_37 : decode cX8_locks 37 = .ok (.iload_n 2, 1) := by decide +kernel
theorem dX8_locks_38 : decode cX8_locks 38 = .ok (.ireturn, 1) := by decide +kernel
theorem dX8_lock_0 : decode cX8_lock 0 = .ok (.aload_n 0, 1) := by decide +kernel
theorem dX8_lock_1 : decode cX8_lock 1 = .ok (.getfield 14, 3) := by decide +kernel
theorem dX8_lock_4 : decode cX8_lock 4 = .ok (.iload_n 1, 1) := by decide +kernel
theorem dX8_lock_5 : decode cX8_lock 5 = .ok (.invokevirtual 79, 3) := by decide +kernel
theorem dX8_lock_8 : decode cX8_lock 8 = .ok (.ifCond .eq 11, 3) := by decide +kernel
theorem dX8_lock_11 : decode cX8_lock 11 = .ok (.iload_n 2, 1) := by decide +kernel
theorem dX8_lock_12 : decode cX8_lock 12 = .ok (.iload_n 3, 1) := by decide +kernel
theorem dX8_lock_13 : decode cX8_lock 13 = .ok (.invokestatic 83, 3) := by decide +kernel
theorem dX8_lock_16 : decode cX8_lock 16 = .ok (.ifCond .ne 5, 3) := by decide +kernel
theorem dX8_lock_19 : decode cX8_lock 19 = .ok (.iconst (-1), 1) := by decide +kernel
theorem dX8_lock_20 : decode cX8_lock 20 = .ok (.ireturn, 1) := by decide +kernel
theorem dX8_lock_21 : decode cX8_lock 21 = .ok (.aload_n 0, 1) := by decide +kernel
theorem dX8_lock_22 : decode cX8_lock 22 = .ok (.getfield 14, 3) := by decide +kernel
theorem dX8_lock_25 : decode cX8_lock 25 = .ok (.iload_n 1, 1) := by decide +kernel
theorem dX8_lock_26 : decode cX8_lock 26 = .ok (.invokevirtual 87, 3) := by decide +kernel
theorem dX8_lock_29 : decode cX8_lock 29 = .ok (.ifCond .ne 6, 3) := by decide +kernel
theorem dX8_lock_32 : decode cX8_lock 32 = .ok (.bipush (-5), 2) := by decide +kernel
theorem dX8_lock_34 : decode cX8_lock 34 = .ok (.ireturn, 1) := by decide +kernel
theorem dX8_lock_35 : decode cX8_lock 35 = .ok (.aload_n 0, 1) := by decide +kernel
theorem dX8_lock_36 : decode cX8_lock 36 = .ok (.getfield 14, 3) := by decide +kernel
theorem dX8_lock_39 : decode cX8_lock 39 = .ok (.iload_n 1, 1) := by decide +kernel
theorem dX8_lock_40 : decode cX8_lock 40 = .ok (.iload_n 2, 1) := by decide +kernel
theorem dX8_lock_41 : decode cX8_lock 41 = .ok (.invokevirtual 90, 3) := by decide +kernel
theorem dX8_lock_44 : decode cX8_lock 44 = .ok (.istore 4, 2) := by decide +kernel
theorem dX8_lock_46 : decode cX8_lock 46 = .ok (.iload_n 2, 1) := by decide +kernel
theorem dX8_lock_47 : decode cX8_lock 47 = .ok (.ifCond .ne 16, 3) := by decide +kernel
theorem dX8_lock_50 : decode cX8_lock 50 = .ok (.aload_n 0, 1) := by decide +kernel
theorem dX8_lock_51 : decode cX8_lock 51 = .ok (.getfield 14, 3) := by decide +kernel
theorem dX8_lock_54 : decode cX8_lock 54 = .ok (.getfield 94, 3) := by decide +kernel
theorem dX8_lock_57 : decode cX8_lock 57 = .ok (.iload_n 1, 1) := by decide +kernel
theorem dX8_lock_58 : decode cX8_lock 58 = .ok (.iload_n 3, 1) := by decide +kernel
theorem dX8_lock_59 : decode cX8_lock 59 = .ok (.iastore, 1) := by decide +kernel
theorem dX8_lock_60 : decode cX8_lock 60 = .ok (.goto 13, 3) := by decide +kernel
theorem dX8_lock_63 : decode cX8_lock 63 = .ok (.aload_n 0, 1) := by decide +kernel
theorem dX8_lock_64 : decode cX8_lock 64 = .ok (.getfield 14, 3) := by decide +kernel
theorem dX8_lock_67 : decode cX8_lock 67 = .ok (.getfield 98, 3) := by decide +kernel
theorem dX8_lock_70 : decode cX8_lock 70 = .ok (.iload_n 1, 1) := by decide +kernel
theorem dX8_lock_71 : decode cX8_lock 71 = .ok (.iload_n 3, 1) := by decide +kernel
theorem dX8_lock_72 : decode cX8_lock 72 = .ok (.iastore, 1) := by decide +kernel
theorem dX8_lock_73 : decode cX8_lock 73 = .ok (.iload 4, 2) := by decide +kernel
theorem dX8_lock_75 : decode cX8_lock 75 = .ok (.ireturn, 1) := by decide +kernel
theorem dX8_isLockSetting_0 : decode cX8_isLockSetting 0 = .ok (.iload_n 0, 1) := by decide +kernel
theorem dX8_isLockSetting_1 : decode cX8_isLockSetting 1 = .ok (.lookupswitch 59 #[(0, 27), (1, 44)], 27) := by decide +kernel
theorem dX8_isLockSetting_28 : decode cX8_isLockSetting 28 = .ok (.iload_n 1, 1) := by decide +kernel
theorem dX8_isLockSetting_29 : decode cX8_isLockSetting 29 = .ok (.iconst 1, 1) := by decide +kernel
theorem dX8_isLockSetting_30 : decode cX8_isLockSetting 30 = .ok (.if_icmp .lt 13, 3) := by decide +kernel
theorem dX8_isLockSetting_33 : decode cX8_isLockSetting 33 = .ok (.iload_n 1, 1) := by decide +kernel
theorem dX8_isLockSetting_34 : decode cX8_isLockSetting 34 = .ok (.bipush 99, 2) := by decide +kernel
theorem dX8_isLockSetting_36 : decode cX8_isLockSetting 36 = .ok (.if_icmp .gt 7, 3) := by decide +kernel
theorem dX8_isLockSetting_39 : decode cX8_isLockSetting 39 = .ok (.iconst 1, 1) := by decide +kernel
theorem dX8_isLockSetting_40 : decode cX8_isLockSetting 40 = .ok (.goto 4, 3) := by decide +kernel
theorem dX8_isLockSetting_43 : decode cX8_isLockSetting 43 = .ok (.iconst 0, 1) := by decide +kernel
theorem dX8_isLockSetting_44 : decode cX8_isLockSetting 44 = .ok (.ireturn, 1) := by decide +kernel
theorem dX8_isLockSetting_45 : decode cX8_isLockSetting 45 = .ok (.iload_n 1, 1) := by decide +kernel
theorem dX8_isLockSetting_46 : decode cX8_isLockSetting 46 = .ok (.ifCond .lt 12, 3) := by decide +kernel
theorem dX8_isLockSetting_49 : decode cX8_isLockSetting 49 = .ok (.iload_n 1, 1) := by decide +kernel
theorem dX8_isLockSetting_50 : decode cX8_isLockSetting 50 = .ok (.iconst 3, 1) := by decide +kernel
theorem dX8_isLockSetting_51 : decode cX8_isLockSetting 51 = .ok (.if_icmp .gt 7, 3) := by decide +kernel
theorem dX8_isLockSetting_54 : decode cX8_isLockSetting 54 = .ok (.iconst 1, 1) := by decide +kernel
theorem dX8_isLockSetting_55 : decode cX8_isLockSetting 55 = .ok (.goto 4, 3) := by decide +kernel
theorem dX8_isLockSetting_58 : decode cX8_isLockSetting 58 = .ok (.iconst 0, 1) := by decide +kernel
theorem dX8_isLockSetting_59 : decode cX8_isLockSetting 59 = .ok (.ireturn, 1) := by decide +kernel
theorem dX8_isLockSetting_60 : decode cX8_isLockSetting 60 = .ok (.iconst 0, 1) := by decide +kernel
theorem dX8_isLockSetting_61 : decode cX8_isLockSetting 61 = .ok (.ireturn, 1) := by decide +kernel
theorem dX8_ofLock_0 : decode cX8_ofLock 0 = .ok (.aload_n 0, 1) := by decide +kernel
theorem dX8_ofLock_1 : decode cX8_ofLock 1 = .ok (.getfield 14, 3) := by decide +kernel
theorem dX8_ofLock_4 : decode cX8_ofLock 4 = .ok (.iload_n 1, 1) := by decide +kernel
theorem dX8_ofLock_5 : decode cX8_ofLock 5 = .ok (.invokevirtual 79, 3) := by decide +kernel
theorem dX8_ofLock_8 : decode cX8_ofLock 8 = .ok (.ifCond .eq 12, 3) := by decide +kernel
theorem dX8_ofLock_11 : decode cX8_ofLock 11 = .ok (.iload_n 2, 1) := by decide +kernel
theorem dX8_ofLock_12 : decode cX8_ofLock 12 = .ok (.ifCond .lt 8, 3) := by decide +kernel
theorem dX8_ofLock_15 : decode cX8_ofLock 15 = .ok (.iload_n 2, 1) := by decide +kernel
theorem dX8_ofLock_16 : decode cX8_ofLock 16 = .ok (.iconst 4, 1) := by decide +kernel
theorem dX8_ofLock_17 : decode cX8_ofLock 17 = .ok (.if_icmp .le 5, 3) := by decide +kernel
theorem dX8_ofLock_20 : decode cX8_ofLock 20 = .ok (.iconst (-1), 1) := by decide +kernel
theorem dX8_ofLock_21 : decode cX8_ofLock 21 = .ok (.ireturn, 1) := by decide +kernel
theorem dX8_ofLock_22 : decode cX8_ofLock 22 = .ok (.aload_n 0, 1) := by decide +kernel
theorem dX8_ofLock_23 : decode cX8_ofLock 23 = .ok (.getfield 14, 3) := by decide +kernel
theorem dX8_ofLock_26 : decode cX8_ofLock 26 = .ok (.iload_n 1, 1) := by decide +kernel
theorem dX8_ofLock_27 : decode cX8_ofLock 27 = .ok (.iload_n 2, 1) := by decide +kernel
theorem dX8_ofLock_28 : decode cX8_ofLock 28 = .ok (.invokevirtual 90, 3) := by decide +kernel
theorem dX8_ofLock_31 : decode cX8_ofLock 31 = .ok (.ireturn, 1) := by decide +kernel
theorem dX8_reach_0 : decode cX8_reach 0 = .ok (.aload_n 0, 1) := by decide +kernel
theorem dX8_reach_1 : decode cX8_reach 1 = .ok (.getfield 14, 3) := by decide +kernel
theorem dX8_reach_4 : decode cX8_reach 4 = .ok (.iload_n 1, 1) := by decide +kernel
theorem dX8_reach_5 : decode cX8_reach 5 = .ok (.invokevirtual 101, 3) := by decide +kernel
theorem dX8_reach_8 : decode cX8_reach 8 = .ok (.ifCond .eq 11, 3) := by decide +kernel
theorem dX8_reach_11 : decode cX8_reach 11 = .ok (.iload_n 2, 1) := by decide +kernel
theorem dX8_reach_12 : decode cX8_reach 12 = .ok (.iload_n 3, 1) := by decide +kernel
theorem dX8_reach_13 : decode cX8_reach 13 = .ok (.invokestatic 104, 3) := by decide +kernel
theorem dX8_reach_16 : decode cX8_reach 16 = .ok (.ifCond .ne 5, 3) := by decide +kernel
theorem dX8_reach_19 : decode cX8_reach 19 = .ok (.iconst (-1), 1) := by decide +kernel
theorem dX8_reach_20 : decode cX8_reach 20 = .ok (.ireturn, 1) := by decide +kernel
theorem dX8_reach_21 : decode cX8_reach 21 = .ok (.iload_n 2, 1) := by decide +kernel
theorem dX8_reach_22 : decode cX8_reach 22 = .ok (.ifCond .ne 7, 3) := by decide +kernel
theorem dX8_reach_25 : decode cX8_reach 25 = .ok (.iload_n 3, 1) := by decide +kernel
theorem dX8_reach_26 : decode cX8_reach 26 = .ok (.goto 12, 3) := by decide +kernel
theorem dX8_reach_29 : decode cX8_reach 29 = .ok (.aload_n 0, 1) := by decide +kernel
theorem dX8_reach_30 : decode cX8_reach 30 = .ok (.getfield 14, 3) := by decide +kernel
theorem dX8_reach_33 : decode cX8_reach 33 = .ok (.getfield 107, 3) := by decide +kernel
theorem dX8_reach_36 : decode cX8_reach 36 = .ok (.iload_n 1, 1) := by decide +kernel
theorem dX8_reach_37 : decode cX8_reach 37 = .ok (.iaload, 1) := by decide +kernel
theorem dX8_reach_38 : decode cX8_reach 38 = .ok (.istore 4, 2) := by decide +kernel
theorem dX8_reach_40 : decode cX8_reach 40 = .ok (.iload_n 2, 1) := by decide +kernel
theorem dX8_reach_41 : decode cX8_reach 41 = .ok (.iconst 1, 1) := by decide +kernel
theorem dX8_reach_42 : decode cX8_reach 42 = .ok (.if_icmp .ne 7, 3) := by decide +kernel
theorem dX8_reach_45 : decode cX8_reach 45 = .ok (.iload_n 3, 1) := by decide +kernel
theorem dX8_reach_46 : decode cX8_reach 46 = .ok (.goto 12, 3) := by decide +kernel
theorem dX8_reach_49 : decode cX8_reach 49 = .ok (.aload_n 0, 1) := by decide +kernel
theorem dX8_reach_50 : decode cX8_reach 50 = .ok (.getfield 14, 3) := by decide +kernel
theorem dX8_reach_53 : decode cX8_reach 53 = .ok (.getfield 110, 3) := by decide +kernel
theorem dX8_reach_56 : decode cX8_reach 56 = .ok (.iload_n 1, 1) := by decide +kernel
theorem dX8_reach_57 : decode cX8_reach 57 = .ok (.iaload, 1) := by decide +kernel
theorem dX8_reach_58 : decode cX8_reach 58 = .ok (.istore 5, 2) := by decide +kernel
theorem dX8_reach_60 : decode cX8_reach 60 = .ok (.iload_n 2, 1) := by decide +kernel
theorem dX8_reach_61 : decode cX8_reach 61 = .ok (.iconst 2, 1) := by decide +kernel
theorem dX8_reach_62 : decode cX8_reach 62 = .ok (.if_icmp .ne 7, 3) := by decide +kernel
theorem dX8_reach_65 : decode cX8_reach 65 = .ok (.iload_n 3, 1) := by decide +kernel
theorem dX8_reach_66 : decode cX8_reach 66 = .ok (.goto 12, 3) := by decide +kernel
theorem dX8_reach_69 : decode cX8_reach 69 = .ok (.aload_n 0, 1) := by decide +kernel
theorem dX8_reach_70 : decode cX8_reach 70 = .ok (.getfield 14, 3) := by decide +kernel
theorem dX8_reach_73 : decode cX8_reach 73 = .ok (.getfield 113, 3) := by decide +kernel
theorem dX8_reach_76 : decode cX8_reach 76 = .ok (.iload_n 1, 1) := by decide +kernel
theorem dX8_reach_77 : decode cX8_reach 77 = .ok (.iaload, 1) := by decide +kernel
theorem dX8_reach_78 : decode cX8_reach 78 = .ok (.istore 6, 2) := by decide +kernel
theorem dX8_reach_80 : decode cX8_reach 80 = .ok (.iload 4, 2) := by decide +kernel
theorem dX8_reach_82 : decode cX8_reach 82 = .ok (.iload 5, 2) := by decide +kernel
theorem dX8_reach_84 : decode cX8_reach 84 = .ok (.if_icmp .lt 10, 3) := by decide +kernel
theorem dX8_reach_87 : decode cX8_reach 87 = .ok (.iload 4, 2) := by decide +kernel
theorem dX8_reach_89 : decode cX8_reach 89 = .ok (.iload 6, 2) := by decide +kernel
theorem dX8_reach_91 : decode cX8_reach 91 = .ok (.if_icmp .le 6, 3) := by decide +kernel
theorem dX8_reach_94 : decode cX8_reach 94 = .ok (.bipush (-5), 2) := by decide +kernel
theorem dX8_reach_96 : decode cX8_reach 96 = .ok (.ireturn, 1) := by decide +kernel
theorem dX8_reach_97 : decode cX8_reach 97 = .ok (.aload_n 0, 1) := by decide +kernel
theorem dX8_reach_98 : decode cX8_reach 98 = .ok (.getfield 14, 3) := by decide +kernel
theorem dX8_reach_101 : decode cX8_reach 101 = .ok (.iload_n 1, 1) := by decide +kernel
theorem dX8_reach_102 : decode cX8_reach 102 = .ok (.iload_n 2, 1) := by decide +kernel
theorem dX8_reach_103 : decode cX8_reach 103 = .ok (.invokevirtual 116, 3) := by decide +kernel
theorem dX8_reach_106 : decode cX8_reach 106 = .ok (.istore 7, 2) := by decide +kernel
theorem dX8_reach_108 : decode cX8_reach 108 = .ok (.aload_n 0, 1) := by decide +kernel
theorem dX8_reach_109 : decode cX8_reach 109 = .ok (.getfield 14, 3) := by decide +kernel
theorem dX8_reach_112 : decode cX8_reach 112 = .ok (.iload_n 1, 1) := by decide +kernel
theorem dX8_reach_113 : decode cX8_reach 113 = .ok (.iload_n 2, 1) := by decide +kernel
theorem dX8_reach_114 : decode cX8_reach 114 = .ok (.iload_n 3, 1) := by decide +kernel
theorem dX8_reach_115 : decode cX8_reach 115 = .ok (.invokevirtual 119, 3) := by decide +kernel
theorem dX8_reach_118 : decode cX8_reach 118 = .ok (.iload 7, 2) := by decide +kernel
theorem dX8_reach_120 : decode cX8_reach 120 = .ok (.ireturn, 1) := by decide +kernel
theorem dX8_isReachSetting_0 : decode cX8_isReachSetting 0 = .ok (.iload_n 0, 1) := by decide +kernel
theorem dX8_isReachSetting_1 : decode cX8_isReachSetting 1 = .ok (.ifCond .lt 8, 3) := by decide +kernel
theorem dX8_isReachSetting_4 : decode cX8_isReachSetting 4 = .ok (.iload_n 0, 1) := by decide +kernel
theorem dX8_isReachSetting_5 : decode cX8_isReachSetting 5 = .ok (.iconst 3, 1) := by decide +kernel
theorem dX8_isReachSetting_6 : decode cX8_isReachSetting 6 = .ok (.if_icmp .le 5, 3) := by decide +kernel
theorem dX8_isReachSetting_9 : decode cX8_isReachSetting 9 = .ok (.iconst 0, 1) := by decide +kernel
theorem dX8_isReachSetting_10 : decode cX8_isReachSetting 10 = .ok (.ireturn, 1) := by decide +kernel
theorem dX8_isReachSetting_11 : decode cX8_isReachSetting 11 = .ok (.iload_n 1, 1) := by decide +kernel
theorem dX8_isReachSetting_12 : decode cX8_isReachSetting 12 = .ok (.ifCond .lt 24, 3) := by decide +kernel
theorem dX8_isReachSetting_15 : decode cX8_isReachSetting 15 = .ok (.iload_n 1, 1) := by decide +kernel
theorem dX8_isReachSetting_16 : decode cX8_isReachSetting 16 = .ok (.iload_n 0, 1) := by decide +kernel
theorem dX8_isReachSetting_17 : decode cX8_isReachSetting 17 = .ok (.iconst 3, 1) := by decide +kernel
theorem dX8_isReachSetting_18 : decode cX8_isReachSetting 18 = .ok (.if_icmp .ne 8, 3) := by decide +kernel
theorem dX8_isReachSetting_21 : decode cX8_isReachSetting 21 = .ok (.bipush 99, 2) := by decide +kernel
theorem dX8_isReachSetting_23 : decode cX8_isReachSetting 23 = .ok (.goto 6, 3) := by decide +kernel
theorem dX8_isReachSetting_26 : decode cX8_isReachSetting 26 = .ok (.sipush 9999, 3) := by decide +kernel
theorem dX8_isReachSetting_29 : decode cX8_isReachSetting 29 = .ok (.if_icmp .gt 7, 3) := by decide +kernel
theorem dX8_isReachSetting_32 : decode cX8_isReachSetting 32 = .ok (.iconst 1, 1) := by decide +kernel
theorem dX8_isReachSetting_33 : decode cX8_isReachSetting 33 = .ok (.goto 4, 3) := by decide +kernel
theorem dX8_isReachSetting_36 : decode cX8_isReachSetting 36 = .ok (.iconst 0, 1) := by decide +kernel
theorem dX8_isReachSetting_37 : decode cX8_isReachSetting 37 = .ok (.ireturn, 1) := by decide +kernel
theorem dX8_ofReach_0 : decode cX8_ofReach 0 = .ok (.aload_n 0, 1) := by decide +kernel
theorem dX8_ofReach_1 : decode cX8_ofReach 1 = .ok (.getfield 14, 3) := by decide +kernel
theorem dX8_ofReach_4 : decode cX8_ofReach 4 = .ok (.iload_n 1, 1) := by decide +kernel
theorem dX8_ofReach_5 : decode cX8_ofReach 5 = .ok (.invokevirtual 101, 3) := by decide +kernel
theorem dX8_ofReach_8 : decode cX8_ofReach 8 = .ok (.ifCond .eq 12, 3) := by decide +kernel
theorem dX8_ofReach_11 : decode cX8_ofReach 11 = .ok (.iload_n 2, 1) := by decide +kernel
theorem dX8_ofReach_12 : decode cX8_ofReach 12 = .ok (.ifCond .lt 8, 3) := by decide +kernel
theorem dX8_ofReach_15 : decode cX8_ofReach 15 = .ok (.iload_n 2, 1) := by decide +kernel
theorem dX8_ofReach_16 : decode cX8_ofReach 16 = .ok (.iconst 4, 1) := by decide +kernel
theorem dX8_ofReach_17 : decode cX8_ofReach 17 = .ok (.if_icmp .le 5, 3) := by decide +kernel
theorem dX8_ofReach_20 : decode cX8_ofReach 20 = .ok (.iconst (-1), 1) := by decide +kernel
theorem dX8_ofReach_21 : decode cX8_ofReach 21 = .ok (.ireturn, 1) := by decide +kernel
theorem dX8_ofReach_22 : decode cX8_ofReach 22 = .ok (.iload_n 2, 1) := by decide +kernel
theorem dX8_ofReach_23 : decode cX8_ofReach 23 = .ok (.iconst 4, 1) := by decide +kernel
theorem dX8_ofReach_24 : decode cX8_ofReach 24 = .ok (.if_icmp .ne 14, 3) := by decide +kernel
theorem dX8_ofReach_27 : decode cX8_ofReach 27 = .ok (.aload_n 0, 1) := by decide +kernel
theorem dX8_ofReach_28 : decode cX8_ofReach 28 = .ok (.getfield 21, 3) := by decide +kernel
theorem dX8_ofReach_31 : decode cX8_ofReach 31 = .ok (.iload_n 1, 1) := by decide +kernel
theorem dX8_ofReach_32 : decode cX8_ofReach 32 = .ok (.invokevirtual 123, 3) := by decide +kernel
theorem dX8_ofReach_35 : decode cX8_ofReach 35 = .ok (.goto 12, 3) := by decide +kernel
theorem dX8_ofReach_38 : decode cX8_ofReach 38 = .ok (.aload_n 0, 1) := by decide +kernel
theorem dX8_ofReach_39 : decode cX8_ofReach 39 = .ok (.getfield 14, 3) := by decide +kernel
theorem dX8_ofReach_42 : decode cX8_ofReach 42 = .ok (.iload_n 1, 1) := by decide +kernel
theorem dX8_ofReach_43 : decode cX8_ofReach 43 = .ok (.iload_n 2, 1) := by decide +kernel
theorem dX8_ofReach_44 : decode cX8_ofReach 44 = .ok (.invokevirtual 116, 3) := by decide +kernel
theorem dX8_ofReach_47 : decode cX8_ofReach 47 = .ok (.ireturn, 1) := by decide +kernel
theorem dX8_feeds_0 : decode cX8_feeds 0 = .ok (.iload_n 1, 1) := by decide +kernel
theorem dX8_feeds_1 : decode cX8_feeds 1 = .ok (.ifCond .lt 10, 3) := by decide +kernel
theorem dX8_feeds_4 : decode cX8_feeds 4 = .ok (.iload_n 1, 1) := by decide +kernel
theorem dX8_feeds_5 : decode cX8_feeds 5 = .ok (.sipush 999, 3) := by decide +kernel
theorem dX8_feeds_8 : decode cX8_feeds 8 = .ok (.if_icmp .le 5, 3) := by decide +kernel
theorem dX8_feeds_11 : decode cX8_feeds 11 = .ok (.iconst (-1), 1) := by decide +kernel
theorem dX8_feeds_12 : decode cX8_feeds 12 = .ok (.ireturn, 1) := by decide +kernel
theorem dX8_feeds_13 : decode cX8_feeds 13 = .ok (.aload_n 0, 1) := by decide +kernel
theorem dX8_feeds_14 : decode cX8_feeds 14 = .ok (.getfield 14, 3) := by decide +kernel
theorem dX8_feeds_17 : decode cX8_feeds 17 = .ok (.getfield 127, 3) := by decide +kernel
theorem dX8_feeds_20 : decode cX8_feeds 20 = .ok (.istore_n 2, 1) := by decide +kernel
theorem dX8_feeds_21 : decode cX8_feeds 21 = .ok (.aload_n 0, 1) := by decide +kernel
theorem dX8_feeds_22 : decode cX8_feeds 22 = .ok (.getfield 14, 3) := by decide +kernel
theorem dX8_feeds_25 : decode cX8_feeds 25 = .ok (.iload_n 1, 1) := by decide +kernel
theorem dX8_feeds_26 : decode cX8_feeds 26 = .ok (.putfield 127, 3) := by decide +kernel
theorem dX8_feeds_29 : decode cX8_feeds 29 = .ok (.iload_n 2, 1) := by decide +kernel
theorem dX8_feeds_30 : decode cX8_feeds 30 = .ok (.ireturn, 1) := by decide +kernel
theorem dX8_feed_0 : decode cX8_feed 0 = .ok (.iload_n 1, 1) := by decide +kernel
theorem dX8_feed_1 : decode cX8_feed 1 = .ok (.bipush 32, 2) := by decide +kernel
theorem dX8_feed_3 : decode cX8_feed 3 = .ok (.if_icmp .lt 9, 3) := by decide +kernel
theorem dX8_feed_6 : decode cX8_feed 6 = .ok (.iload_n 1, 1) := by decide +kernel
theorem dX8_feed_7 : decode cX8_feed 7 = .ok (.bipush 126, 2) := by decide +kernel
theorem dX8_feed_9 : decode cX8_feed 9 = .ok (.if_icmp .le 5, 3) := by decide +kernel
theorem dX8_feed_12 : decode cX8_feed 12 = .ok (.iconst (-1), 1) := by decide +kernel
theorem dX8_feed_13 : decode cX8_feed 13 = .ok (.ireturn, 1) := by decide +kernel
theorem dX8_feed_14 : decode cX8_feed 14 = .ok (.aload_n 0, 1) := by decide +kernel
theorem dX8_feed_15 : decode cX8_feed 15 = .ok (.getfield 28, 3) := by decide +kernel
theorem dX8_feed_18 : decode cX8_feed 18 = .ok (.iload_n 1, 1) := by decide +kernel
theorem dX8_feed_19 : decode cX8_feed 19 = .ok (.invokevirtual 130, 3) := by decide +kernel
theorem dX8_feed_22 : decode cX8_feed 22 = .ok (.ifCond .eq 13, 3) := by decide +kernel
theorem dX8_feed_25 : decode cX8_feed 25 = .ok (.aload_n 0, 1) := by decide +kernel
theorem dX8_feed_26 : decode cX8_feed 26 = .ok (.getfield 28, 3) := by decide +kernel
theorem dX8_feed_29 : decode cX8_feed 29 = .ok (.getfield 133, 3) := by decide +kernel
theorem dX8_feed_32 : decode cX8_feed 32 = .ok (.goto 5, 3) := by decide +kernel
theorem dX8_feed_35 : decode cX8_feed 35 = .ok (.bipush (-3), 2) := by decide +kernel
theorem dX8_feed_37 : decode cX8_feed 37 = .ok (.ireturn, 1) := by decide +kernel
theorem dX8_boats_0 : decode cX8_boats 0 = .ok (.aload_n 0, 1) := by decide +kernel
theorem dX8_boats_1 : decode cX8_boats 1 = .ok (.invokevirtual 136, 3) := by decide +kernel
theorem dX8_boats_4 : decode cX8_boats 4 = .ok (.istore_n 1, 1) := by decide +kernel
theorem dX8_boats_5 : decode cX8_boats 5 = .ok (.aload_n 0, 1) := by decide +kernel
theorem dX8_boats_6 : decode cX8_boats 6 = .ok (.getfield 28, 3) := by decide +kernel
theorem dX8_boats_9 : decode cX8_boats 9 = .ok (.iconst 0, 1) := by decide +kernel
theorem dX8_boats_10 : decode cX8_boats 10 = .ok (.putfield 133, 3) := by decide +kernel
theorem dX8_boats_13 : decode cX8_boats 13 = .ok (.iload_n 1, 1) := by decide +kernel
theorem dX8_boats_14 : decode cX8_boats 14 = .ok (.ireturn, 1) := by decide +kernel
theorem dX8_readBoats_0 : decode cX8_readBoats 0 = .ok (.aload_n 0, 1) := by decide +kernel
theorem dX8_readBoats_1 : decode cX8_readBoats 1 = .ok (.getfield 41, 3) := by decide +kernel
theorem dX8_readBoats_4 : decode cX8_readBoats 4 = .ok (.aload_n 0, 1) := by decide +kernel
theorem dX8_readBoats_5 : decode cX8_readBoats 5 = .ok (.getfield 21, 3) := by decide +kernel
theorem dX8_readBoats_8 : decode cX8_readBoats 8 = .ok (.invokevirtual 140, 3) := by decide +kernel
theorem dX8_readBoats_11 : decode cX8_readBoats 11 = .ok (.aload_n 0, 1) := by decide +kernel
theorem dX8_readBoats_12 : decode cX8_readBoats 12 = .ok (.getfield 28, 3) := by decide +kernel
theorem dX8_readBoats_15 : decode cX8_readBoats 15 = .ok (.iconst 0, 1) := by decide +kernel
theorem dX8_readBoats_16 : decode cX8_readBoats 16 = .ok (.putfield 144, 3) := by decide +kernel
theorem dX8_readBoats_19 : decode cX8_readBoats 19 = .ok (.iconst 1, 1) := by decide +kernel
theorem dX8_readBoats_20 : decode cX8_readBoats 20 = .ok (.istore_n 1, 1) := by decide +kernel
theorem dX8_readBoats_21 : decode cX8_readBoats 21 = .ok (.iload_n 1, 1) := by decide +kernel
theorem dX8_readBoats_22 : decode cX8_readBoats 22 = .ok (.bipush 60, 2) := by decide +kernel
theorem dX8_readBoats_24 : decode cX8_readBoats 24 = .ok (.if_icmp .gt 85, 3) := by decide +kernel
theorem dX8_readBoats_27 : decode cX8_readBoats 27 = .ok (.aload_n 0, 1) := by decide +kernel
theorem dX8_readBoats_28 : decode cX8_readBoats 28 = .ok (.getfield 28, 3) := by decide +kernel
theorem dX8_readBoats_31 : decode cX8_readBoats 31 = .ok (.aload_n 0, 1) := by decide +kernel
theorem dX8_readBoats_32 : decode cX8_readBoats 32 = .ok (.getfield 14, 3) := by decide +kernel
theorem dX8_readBoats_35 : decode cX8_readBoats 35 = .ok (.getfield 72, 3) := by decide +kernel
theorem dX8_readBoats_38 : decode cX8_readBoats 38 = .ok (.invokevirtual 147, 3) := by decide +kernel
theorem dX8_readBoats_41 : decode cX8_readBoats 41 = .ok (.ifCond .ne 14, 3) := by decide +kernel
theorem dX8_readBoats_44 : decode cX8_readBoats 44 = .ok (.bipush (-100), 2) := by decide +kernel
theorem dX8_readBoats_46 : decode cX8_readBoats 46 = .ok (.aload_n 0, 1) := by decide +kernel
theorem dX8_readBoats_47 : decode cX8_readBoats 47 = .ok (.getfield 28, 3) := by decide +kernel
theorem dX8_readBoats_50 : decode cX8_readBoats 50 = .ok (.getfield 144, 3) := by decide +kernel
theorem dX8_readBoats_53 : decode cX8_readBoats 53 = .ok (.isub, 1) := by decide +kernel
theorem dX8_readBoats_54 : decode cX8_readBoats 54 = .ok (.ireturn, 1) := by decide +kernel
theorem dX8_readBoats_55 : decode cX8_readBoats 55 = .ok (.aload_n 0, 1) := by decide +kernel
theorem dX8_readBoats_56 : decode cX8_readBoats 56 = .ok (.getfield 41, 3) := by decide +kernel
theorem dX8_readBoats_59 : decode cX8_readBoats 59 = .ok (.aload_n 0, 1) := by decide +kernel
theorem dX8_readBoats_60 : decode cX8_readBoats 60 = .ok (.getfield 28, 3) := by decide +kernel
theorem dX8_readBoats_63 : decode cX8_readBoats 63 = .ok (.invokevirtual 150, 3) := by decide +kernel
theorem dX8_readBoats_66 : decode cX8_readBoats 66 = .ok (.aload_n 0, 1) := by decide +kernel
theorem dX8_readBoats_67 : decode cX8_readBoats 67 = .ok (.getfield 28, 3) := by decide +kernel
theorem dX8_readBoats_70 : decode cX8_readBoats 70 = .ok (.invokevirtual 154, 3) := by decide +kernel
theorem dX8_readBoats_73 : decode cX8_readBoats 73 = .ok (.ifCond .eq 9, 3) := by decide +kernel
theorem dX8_readBoats_76 : decode cX8_readBoats 76 = .ok (.aload_n 0, 1) := by decide +kernel
theorem dX8_readBoats_77 : decode cX8_readBoats 77 = .ok (.iload_n 1, 1) := by decide +kernel
theorem dX8_readBoats_78 : decode cX8_readBoats 78 = .ok (.invokevirtual 158, 3) := by decide +kernel
theorem dX8_readBoats_81 : decode cX8_readBoats 81 = .ok (.ireturn, 1) := by decide +kernel
theorem dX8_readBoats_82 : decode cX8_readBoats 82 = .ok (.aload_n 0, 1) := by decide +kernel
theorem dX8_readBoats_83 : decode cX8_readBoats 83 = .ok (.getfield 28, 3) := by decide +kernel
theorem dX8_readBoats_86 : decode cX8_readBoats 86 = .ok (.invokevirtual 161, 3) := by decide +kernel
theorem dX8_readBoats_89 : decode cX8_readBoats 89 = .ok (.ifCond .ne 14, 3) := by decide +kernel
theorem dX8_readBoats_92 : decode cX8_readBoats 92 = .ok (.bipush (-100), 2) := by decide +kernel
theorem dX8_readBoats_94 : decode cX8_readBoats 94 = .ok (.aload_n 0, 1) := by decide +kernel
theorem dX8_readBoats_95 : decode cX8_readBoats 95 = .ok (.getfield 28, 3) := by decide +kernel
theorem dX8_readBoats_98 : decode cX8_readBoats 98 = .ok (.getfield 144, 3) := by decide +kernel
theorem dX8_readBoats_101 : decode cX8_readBoats 101 = .ok (.isub, 1) := by decide +kernel
theorem dX8_readBoats_102 : decode cX8_readBoats 102 = .ok (.ireturn, 1) := by decide +kernel
theorem dX8_readBoats_103 : decode cX8_readBoats 103 = .ok (.iinc 1 1, 3) := by decide +kernel
theorem dX8_readBoats_106 : decode cX8_readBoats 106 = .ok (.goto (-85), 3) := by decide +kernel
theorem dX8_readBoats_109 : decode cX8_readBoats 109 = .ok (.bipush (-100), 2) := by decide +kernel
theorem dX8_readBoats_111 : decode cX8_readBoats 111 = .ok (.aload_n 0, 1) := by decide +kernel
theorem dX8_readBoats_112 : decode cX8_readBoats 112 = .ok (.getfield 28, 3) := by decide +kernel
theorem dX8_readBoats_115 : decode cX8_readBoats 115 = .ok (.getfield 144, 3) := by decide +kernel
theorem dX8_readBoats_118 : decode cX8_readBoats 118 = .ok (.isub, 1) := by decide +kernel
theorem dX8_readBoats_119 : decode cX8_readBoats 119 = .ok (.ireturn, 1) := by decide +kernel
theorem dX8_takeFleetInThought_0 : decode cX8_takeFleetInThought 0 = .ok (.aload_n 0, 1) := by decide +kernel
theorem dX8_takeFleetInThought_1 : decode cX8_takeFleetInThought 1 = .ok (.getfield 41, 3) := by decide +kernel
theorem dX8_takeFleetInThought_4 : decode cX8_takeFleetInThought 4 = .ok (.getfield 76, 3) := by decide +kernel
theorem dX8_takeFleetInThought_7 : decode cX8_takeFleetInThought 7 = .ok (.bipush 12, 2) := by decide +kernel
theorem dX8_takeFleetInThought_9 : decode cX8_takeFleetInThought 9 = .ok (.if_icmp .le 6, 3) := by decide +kernel
theorem dX8_takeFleetInThought_12 : decode cX8_takeFleetInThought 12 = .ok (.bipush (-3), 2) := by decide +kernel
theorem dX8_takeFleetInThought_14 : decode cX8_takeFleetInThought 14 = .ok (.ireturn, 1) := by decide +kernel
theorem dX8_takeFleetInThought_15 : decode cX8_takeFleetInThought 15 = .ok (.aload_n 0, 1) := by decide +kernel
theorem dX8_takeFleetInThought_16 : decode cX8_takeFleetInThought 16 = .ok (.getfield 21, 3) := by decide +kernel
theorem dX8_takeFleetInThought_19 : decode cX8_takeFleetInThought 19 = .ok (.aload_n 0, 1) := by decide +kernel
theorem dX8_takeFleetInThought_20 : decode cX8_takeFleetInThought 20 = .ok (.getfield 41, 3) := by decide +kernel
theorem dX8_takeFleetInThought_23 : decode cX8_takeFleetInThought 23 = .ok (.invokevirtual 140, 3) := by decide +kernel
theorem dX8_takeFleetInThought_26 : decode cX8_takeFleetInThought 26 = .ok (.iload_n 1, 1) := by decide +kernel
theorem dX8_takeFleetInThought_27 : decode cX8_takeFleetInThought 27 = .ok (.ireturn, 1) := by decide +kernel
theorem dX8_boat_0 : decode cX8_boat 0 = .ok (.aload_n 0, 1) := by decide +kernel
theorem dX8_boat_1 : decode cX8_boat 1 = .ok (.getfield 21, 3) := by decide +kernel
theorem dX8_boat_4 : decode cX8_boat 4 = .ok (.iload_n 1, 1) := by decide +kernel
theorem dX8_boat_5 : decode cX8_boat 5 = .ok (.invokevirtual 164, 3) := by decide +kernel
theorem dX8_boat_8 : decode cX8_boat 8 = .ok (.ifCond .eq 18, 3) := by decide +kernel
theorem dX8_boat_11 : decode cX8_boat 11 = .ok (.iload_n 2, 1) := by decide +kernel
theorem dX8_boat_12 : decode cX8_boat 12 = .ok (.ifCond .lt 14, 3) := by decide +kernel
theorem dX8_boat_15 : decode cX8_boat 15 = .ok (.iload_n 2, 1) := by decide +kernel
theorem dX8_boat_16 : decode cX8_boat 16 = .ok (.iconst 4, 1) := by decide +kernel
theorem dX8_boat_17 : decode cX8_boat 17 = .ok (.if_icmp .le 11, 3) := by decide +kernel
theorem dX8_boat_20 : decode cX8_boat 20 = .ok (.iload_n 2, 1) := by decide +kernel
theorem dX8_boat_21 : decode cX8_boat 21 = .ok (.bipush 10, 2) := by decide +kernel
theorem dX8_boat_23 : decode cX8_boat 23 = .ok (.if_icmp .ge 5, 3) := by decide +kernel
theorem dX8_boat_26 : decode cX8_boat 26 = .ok (.iconst (-1), 1) := by decide +kernel
theorem dX8_boat_27 : decode cX8_boat 27 = .ok (.ireturn, 1) := by decide +kernel
theorem dX8_boat_28 : decode cX8_boat 28 = .ok (.iload_n 2, 1) := by decide +kernel
theorem dX8_boat_29 : decode cX8_boat 29 = .ok (.bipush 10, 2) := by decide +kernel
theorem dX8_boat_31 : decode cX8_boat 31 = .ok (.if_icmp .ge 15, 3) := by decide +kernel
theorem dX8_boat_34 : decode cX8_boat 34 = .ok (.aload_n 0, 1) := by decide +kernel
theorem dX8_boat_35 : decode cX8_boat 35 = .ok (.getfield 21, 3) := by decide +kernel
theorem dX8_boat_38 : decode cX8_boat 38 = .ok (.iload_n 1, 1) := by decide +kernel
theorem dX8_boat_39 : decode cX8_boat 39 = .ok (.iload_n 2, 1) := by decide +kernel
theorem dX8_boat_40 : decode cX8_boat 40 = .ok (.invokevirtual 167, 3) := by decide +kernel
theorem dX8_boat_43 : decode cX8_boat 43 = .ok (.goto 15, 3) := by decide +kernel
theorem dX8_boat_46 : decode cX8_boat 46 = .ok (.aload_n 0, 1) := by decide +kernel
theorem dX8_boat_47 : decode cX8_boat 47 = .ok (.getfield 21, 3) := by decide +kernel
theorem dX8_boat_50 : decode cX8_boat 50 = .ok (.iload_n 1, 1) := by decide +kernel
theorem dX8_boat_51 : decode cX8_boat 51 = .ok (.iload_n 2, 1) := by decide +kernel
theorem dX8_boat_52 : decode cX8_boat 52 = .ok (.bipush 10, 2) := by decide +kernel
theorem dX8_boat_54 : decode cX8_boat 54 = .ok (.isub, 1) := by decide +kernel
theorem dX8_boat_55 : decode cX8_boat 55 = .ok (.invokevirtual 170, 3) := by decide +kernel
theorem dX8_boat_58 : decode cX8_boat 58 = .ok (.ireturn, 1) := by decide +kernel
theorem dX8_find_0 : decode cX8_find 0 = .ok (.aload_n 0, 1) := by decide +kernel
theorem dX8_find_1 : decode cX8_find 1 = .ok (.getfield 28, 3) := by decide +kernel
theorem dX8_find_4 : decode cX8_find 4 = .ok (.iconst 0, 1) := by decide +kernel
theorem dX8_find_5 : decode cX8_find 5 = .ok (.putfield 144, 3) := by decide +kernel
theorem dX8_find_8 : decode cX8_find 8 = .ok (.aload_n 0, 1) := by decide +kernel
theorem dX8_find_9 : decode cX8_find 9 = .ok (.getfield 28, 3) := by decide +kernel
theorem dX8_find_12 : decode cX8_find 12 = .ok (.invokevirtual 173, 3) := by decide +kernel
theorem dX8_find_15 : decode cX8_find 15 = .ok (.istore_n 1, 1) := by decide +kernel
theorem dX8_find_16 : decode cX8_find 16 = .ok (.iload_n 1, 1) := by decide +kernel
theorem dX8_find_17 : decode cX8_find 17 = .ok (.ifCond .eq 17, 3) := by decide +kernel
theorem dX8_find_20 : decode cX8_find 20 = .ok (.aload_n 0, 1) := by decide +kernel
theorem dX8_find_21 : decode cX8_find 21 = .ok (.getfield 28, 3) := by decide +kernel
theorem dX8_find_24 : decode cX8_find 24 = .ok (.invokevirtual 154, 3) := by decide +kernel
theorem dX8_find_27 : decode cX8_find 27 = .ok (.ifCond .eq 7, 3) := by decide +kernel
theorem dX8_find_30 : decode cX8_find 30 = .ok (.iconst 1, 1) := by decide +kernel
theorem dX8_find_31 : decode cX8_find 31 = .ok (.goto 4, 3) := by decide +kernel
theorem dX8_find_34 : decode cX8_find 34 = .ok (.iconst 0, 1) := by decide +kernel
theorem dX8_find_35 : decode cX8_find 35 = .ok (.istore_n 2, 1) := by decide +kernel
theorem dX8_find_36 : decode cX8_find 36 = .ok (.aload_n 0, 1) := by decide +kernel
theorem dX8_find_37 : decode cX8_find 37 = .ok (.getfield 28, 3) := by decide +kernel
theorem dX8_find_40 : decode cX8_find 40 = .ok (.iconst 0, 1) := by decide +kernel
theorem dX8_find_41 : decode cX8_find 41 = .ok (.putfield 133, 3) := by decide +kernel
theorem dX8_find_44 : decode cX8_find 44 = .ok (.iload_n 2, 1) := by decide +kernel
theorem dX8_find_45 : decode cX8_find 45 = .ok (.ifCond .eq 14, 3) := by decide +kernel
theorem dX8_find_48 : decode cX8_find 48 = .ok (.aload_n 0, 1) := by decide +kernel
theorem dX8_find_49 : decode cX8_find 49 = .ok (.getfield 21, 3) := by decide +kernel
theorem dX8_find_52 : decode cX8_find 52 = .ok (.iload_n 1, 1) := by decide +kernel
theorem dX8_find_53 : decode cX8_find 53 = .ok (.invokevirtual 176, 3) := by decide +kernel
theorem dX8_find_56 : decode cX8_find 56 = .ok (.goto 5, 3) := by decide +kernel
theorem dX8_find_59 : decode cX8_find 59 = .ok (.bipush (-2), 2) := by decide +kernel
theorem dX8_find_61 : decode cX8_find 61 = .ok (.ireturn, 1) := by decide +kernel
theorem dX8_leaves_0 : decode cX8_leaves 0 = .ok (.aload_n 0, 1) := by decide +kernel
theorem dX8_leaves_1 : decode cX8_leaves 1 = .ok (.getfield 21, 3) := by decide +kernel
theorem dX8_leaves_4 : decode cX8_leaves 4 = .ok (.iload_n 1, 1) := by decide +kernel
theorem dX8_leaves_5 : decode cX8_leaves 5 = .ok (.invokevirtual 164, 3) := by decide +kernel
theorem dX8_leaves_8 : decode cX8_leaves 8 = .ok (.ifCond .ne 5, 3) := by decide +kernel
theorem dX8_leaves_11 : decode cX8_leaves 11 = .ok (.iconst (-1), 1) := by decide +kernel
theorem dX8_leaves_12 : decode cX8_leaves 12 = .ok (.ireturn, 1) := by decide +kernel
theorem dX8_leaves_13 : decode cX8_leaves 13 = .ok (.aload_n 0, 1) := by decide +kernel
theorem dX8_leaves_14 : decode cX8_leaves 14 = .ok (.getfield 21, 3) := by decide +kernel
theorem dX8_leaves_17 : decode cX8_leaves 17 = .ok (.iload_n 1, 1) := by decide +kernel
theorem dX8_leaves_18 : decode cX8_leaves 18 = .ok (.invokevirtual 179, 3) := by decide +kernel
theorem dX8_leaves_21 : decode cX8_leaves 21 = .ok (.aload_n 0, 1) := by decide +kernel
theorem dX8_leaves_22 : decode cX8_leaves 22 = .ok (.getfield 21, 3) := by decide +kernel
theorem dX8_leaves_25 : decode cX8_leaves 25 = .ok (.getfield 76, 3) := by decide +kernel
theorem dX8_leaves_28 : decode cX8_leaves 28 = .ok (.ireturn, 1) := by decide +kernel
theorem dX8_about_0 : decode cX8_about 0 = .ok (.aload_n 0, 1) := by decide +kernel
theorem dX8_about_1 : decode cX8_about 1 = .ok (.getfield 21, 3) := by decide +kernel
theorem dX8_about_4 : decode cX8_about 4 = .ok (.iload_n 1, 1) := by decide +kernel
theorem dX8_about_5 : decode cX8_about 5 = .ok (.invokevirtual 164, 3) := by decide +kernel
theorem dX8_about_8 : decode cX8_about 8 = .ok (.ifCond .ne 5, 3) := by decide +kernel
theorem dX8_about_11 : decode cX8_about 11 = .ok (.iconst (-1), 1) := by decide +kernel
theorem dX8_about_12 : decode cX8_about 12 = .ok (.ireturn, 1) := by decide +kernel
theorem dX8_about_13 : decode cX8_about 13 = .ok (.aload_n 0, 1) := by decide +kernel
theorem dX8_about_14 : decode cX8_about 14 = .ok (.getfield 21, 3) := by decide +kernel
theorem dX8_about_17 : decode cX8_about 17 = .ok (.getfield 182, 3) := by decide +kernel
theorem dX8_about_20 : decode cX8_about 20 = .ok (.iload_n 1, 1) := by decide +kernel
theorem dX8_about_21 : decode cX8_about 21 = .ok (.aload_n 0, 1) := by decide +kernel
theorem dX8_about_22 : decode cX8_about 22 = .ok (.getfield 21, 3) := by decide +kernel
theorem dX8_about_25 : decode cX8_about 25 = .ok (.getfield 182, 3) := by decide +kernel
theorem dX8_about_28 : decode cX8_about 28 = .ok (.iload_n 1, 1) := by decide +kernel
theorem dX8_about_29 : decode cX8_about 29 = .ok (.baload, 1) := by decide +kernel
theorem dX8_about_30 : decode cX8_about 30 = .ok (.ifCond .ne 7, 3) := by decide +kernel
theorem dX8_about_33 : decode cX8_about 33 = .ok (.iconst 1, 1) := by decide +kernel
theorem dX8_about_34 : decode cX8_about 34 = .ok (.goto 4, 3) := by decide +kernel
theorem dX8_about_37 : decode cX8_about 37 = .ok (.iconst 0, 1) := by decide +kernel
theorem dX8_about_38 : decode cX8_about 38 = .ok (.bastore, 1) := by decide +kernel
theorem dX8_about_39 : decode cX8_about 39 = .ok (.aload_n 0, 1) := by decide +kernel
theorem dX8_about_40 : decode cX8_about 40 = .ok (.getfield 21, 3) := by decide +kernel
theorem dX8_about_43 : decode cX8_about 43 = .ok (.getfield 182, 3) := by decide +kernel
theorem dX8_about_46 : decode cX8_about 46 = .ok (.iload_n 1, 1) := by decide +kernel
theorem dX8_about_47 : decode cX8_about 47 = .ok (.baload, 1) := by decide +kernel
theorem dX8_about_48 : decode cX8_about 48 = .ok (.ifCond .eq 7, 3) := by decide +kernel
theorem dX8_about_51 : decode cX8_about 51 = .ok (.iconst 1, 1) := by decide +kernel
theorem dX8_about_52 : decode cX8_about 52 = .ok (.goto 4, 3) := by decide +kernel
theorem dX8_about_55 : decode cX8_about 55 = .ok (.iconst 0, 1) := by decide +kernel
theorem dX8_about_56 : decode cX8_about 56 = .ok (.ireturn, 1) := by decide +kernel
theorem dX8_pass_0 : decode cX8_pass 0 = .ok (.aload_n 0, 1) := by decide +kernel
theorem dX8_pass_1 : decode cX8_pass 1 = .ok (.getfield 21, 3) := by decide +kernel
theorem dX8_pass_4 : decode cX8_pass 4 = .ok (.iload_n 1, 1) := by decide +kernel
theorem dX8_pass_5 : decode cX8_pass 5 = .ok (.invokevirtual 164, 3) := by decide +kernel
theorem dX8_pass_8 : decode cX8_pass 8 = .ok (.ifCond .ne 6, 3) := by decide +kernel
theorem dX8_pass_11 : decode cX8_pass 11 = .ok (.ldc 186, 2) := by decide +kernel
theorem dX8_pass_13 : decode cX8_pass 13 = .ok (.ireturn, 1) := by decide +kernel
theorem dX8_pass_14 : decode cX8_pass 14 = .ok (.aload_n 0, 1) := by decide +kernel
theorem dX8_pass_15 : decode cX8_pass 15 = .ok (.getfield 21, 3) := by decide +kernel
theorem dX8_pass_18 : decode cX8_pass 18 = .ok (.getfield 182, 3) := by decide +kernel
theorem dX8_pass_21 : decode cX8_pass 21 = .ok (.iload_n 1, 1) := by decide +kernel
theorem dX8_pass_22 : decode cX8_pass 22 = .ok (.baload, 1) := by decide +kernel
theorem dX8_pass_23 : decode cX8_pass 23 = .ok (.istore_n 2, 1) := by decide +kernel
theorem dX8_pass_24 : decode cX8_pass 24 = .ok (.aload_n 0, 1) := by decide +kernel
theorem dX8_pass_25 : decode cX8_pass 25 = .ok (.getfield 21, 3) := by decide +kernel
theorem dX8_pass_28 : decode cX8_pass 28 = .ok (.getfield 187, 3) := by decide +kernel
theorem dX8_pass_31 : decode cX8_pass 31 = .ok (.iload_n 1, 1) := by decide +kernel
theorem dX8_pass_32 : decode cX8_pass 32 = .ok (.iaload, 1) := by decide +kernel
theorem dX8_pass_33 : decode cX8_pass 33 = .ok (.iload_n 2, 1) := by decide +kernel
theorem dX8_pass_34 : decode cX8_pass 34 = .ok (.invokestatic 190, 3) := by decide +kernel
theorem dX8_pass_37 : decode cX8_pass 37 = .ok (.istore_n 3, 1) := by decide +kernel
theorem dX8_pass_38 : decode cX8_pass 38 = .ok (.aload_n 0, 1) := by decide +kernel
theorem dX8_pass_39 : decode cX8_pass 39 = .ok (.getfield 14, 3) := by decide +kernel
theorem dX8_pass_42 : decode cX8_pass 42 = .ok (.iload_n 3, 1) := by decide +kernel
theorem dX8_pass_43 : decode cX8_pass 43 = .ok (.invokevirtual 79, 3) := by decide +kernel
theorem dX8_pass_46 : decode cX8_pass 46 = .ok (.ifCond .ne 6, 3) := by decide +kernel
theorem dX8_pass_49 : decode cX8_pass 49 = .ok (.ldc 194, 2) := by decide +kernel
theorem dX8_pass_51 : decode cX8_pass 51 = .ok (.ireturn, 1) := by decide +kernel
theorem dX8_pass_52 : decode cX8_pass 52 = .ok (.aload_n 0, 1) := by decide +kernel
theorem dX8_pass_53 : decode cX8_pass 53 = .ok (.getfield 14, 3) := by decide +kernel
theorem dX8_pass_56 : decode cX8_pass 56 = .ok (.iload_n 3, 1) := by decide +kernel
theorem dX8_pass_57 : decode cX8_pass 57 = .ok (.iload_n 2, 1) := by decide +kernel
theorem dX8_pass_58 : decode cX8_pass 58 = .ok (.aload_n 0, 1) := by decide +kernel
theorem dX8_pass_59 : decode cX8_pass 59 = .ok (.getfield 21, 3) := by decide +kernel
theorem dX8_pass_62 : decode cX8_pass 62 = .ok (.getfield 195, 3) := by decide +kernel
theorem dX8_pass_65 : decode cX8_pass 65 = .ok (.iload_n 1, 1) := by decide +kernel
theorem dX8_pass_66 : decode cX8_pass 66 = .ok (.iaload, 1) := by decide +kernel
theorem dX8_pass_67 : decode cX8_pass 67 = .ok (.invokevirtual 198, 3) := by decide +kernel
theorem dX8_pass_70 : decode cX8_pass 70 = .ok (.istore 4, 2) := by decide +kernel
theorem dX8_pass_72 : decode cX8_pass 72 = .ok (.iload 4, 2) := by decide +kernel
theorem dX8_pass_74 : decode cX8_pass 74 = .ok (.ldc 202, 2) := by decide +kernel
theorem dX8_pass_76 : decode cX8_pass 76 = .ok (.if_icmp .eq 12, 3) := by decide +kernel
theorem dX8_pass_79 : decode cX8_pass 79 = .ok (.aload_n 0, 1) := by decide +kernel
theorem dX8_pass_80 : decode cX8_pass 80 = .ok (.getfield 21, 3) := by decide +kernel
theorem dX8_pass_83 : decode cX8_pass 83 = .ok (.iload_n 1, 1) := by decide +kernel
theorem dX8_pass_84 : decode cX8_pass 84 = .ok (.iconst 1, 1) := by decide +kernel
theorem dX8_pass_85 : decode cX8_pass 85 = .ok (.invokevirtual 203, 3) := by decide +kernel
theorem dX8_pass_88 : decode cX8_pass 88 = .ok (.iload 4, 2) := by decide +kernel
theorem dX8_pass_90 : decode cX8_pass 90 = .ok (.ireturn, 1) := by decide +kernel
theorem dX8_through_0 : decode cX8_through 0 = .ok (.aload_n 0, 1) := by decide +kernel
theorem dX8_through_1 : decode cX8_through 1 = .ok (.getfield 21, 3) := by decide +kernel
theorem dX8_through_4 : decode cX8_through 4 = .ok (.iload_n 1, 1) := by decide +kernel
theorem dX8_through_5 : decode cX8_through 5 = .ok (.invokevirtual 164, 3) := by decide +kernel
theorem dX8_through_8 : decode cX8_through 8 = .ok (.ifCond .ne 5, 3) := by decide +kernel
theorem dX8_through_11 : decode cX8_through 11 = .ok (.iconst (-1), 1) := by decide +kernel
theorem dX8_through_12 : decode cX8_through 12 = .ok (.ireturn, 1) := by decide +kernel
theorem dX8_through_13 : decode cX8_through 13 = .ok (.aload_n 0, 1) := by decide +kernel
theorem dX8_through_14 : decode cX8_through 14 = .ok (.getfield 14, 3) := by decide +kernel
theorem dX8_through_17 : decode cX8_through 17 = .ok (.aload_n 0, 1) := by decide +kernel
theorem dX8_through_18 : decode cX8_through 18 = .ok (.getfield 21, 3) := by decide +kernel
theorem dX8_through_21 : decode cX8_through 21 = .ok (.getfield 187, 3) := by decide +kernel
theorem dX8_through_24 : decode cX8_through 24 = .ok (.iload_n 1, 1) := by decide +kernel
theorem dX8_through_25 : decode cX8_through 25 = .ok (.iaload, 1) := by decide +kernel
theorem dX8_through_26 : decode cX8_through 26 = .ok (.aload_n 0, 1) := by decide +kernel
theorem dX8_through_27 : decode cX8_through 27 = .ok (.getfield 21, 3) := by decide +kernel
theorem dX8_through_30 : decode cX8_through 30 = .ok (.getfield 182, 3) := by decide +kernel
theorem dX8_through_33 : decode cX8_through 33 = .ok (.iload_n 1, 1) := by decide +kernel
theorem dX8_through_34 : decode cX8_through 34 = .ok (.baload, 1) := by decide +kernel
theorem dX8_through_35 : decode cX8_through 35 = .ok (.aload_n 0, 1) := by decide +kernel
theorem dX8_through_36 : decode cX8_through 36 = .ok (.getfield 21, 3) := by decide +kernel
theorem dX8_through_39 : decode cX8_through 39 = .ok (.getfield 195, 3) := by decide +kernel
theorem dX8_through_42 : decode cX8_through 42 = .ok (.iload_n 1, 1) := by decide +kernel
theorem dX8_through_43 : decode cX8_through 43 = .ok (.iaload, 1) := by decide +kernel
theorem dX8_through_44 : decode cX8_through 44 = .ok (.invokevirtual 207, 3) := by decide +kernel
theorem dX8_through_47 : decode cX8_through 47 = .ok (.istore_n 2, 1) := by decide +kernel
theorem dX8_through_48 : decode cX8_through 48 = .ok (.aload_n 0, 1) := by decide +kernel
theorem dX8_through_49 : decode cX8_through 49 = .ok (.getfield 21, 3) := by decide +kernel
theorem dX8_through_52 : decode cX8_through 52 = .ok (.iload_n 1, 1) := by decide +kernel
theorem dX8_through_53 : decode cX8_through 53 = .ok (.iload_n 2, 1) := by decide +kernel
theorem dX8_through_54 : decode cX8_through 54 = .ok (.invokevirtual 203, 3) := by decide +kernel
theorem dX8_through_57 : decode cX8_through 57 = .ok (.iload_n 2, 1) := by decide +kernel
theorem dX8_through_58 : decode cX8_through 58 = .ok (.ireturn, 1) := by decide +kernel
theorem dX8_costs_0 : decode cX8_costs 0 = .ok (.aload_n 0, 1) := by decide +kernel
theorem dX8_costs_1 : decode cX8_costs 1 = .ok (.getfield 21, 3) := by decide +kernel
theorem dX8_costs_4 : decode cX8_costs 4 = .ok (.iload_n 1, 1) := by decide +kernel
theorem dX8_costs_5 : decode cX8_costs 5 = .ok (.invokevirtual 164, 3) := by decide +kernel
theorem dX8_costs_8 : decode cX8_costs 8 = .ok (.ifCond .ne 6, 3) := by decide +kernel
theorem dX8_costs_11 : decode cX8_costs 11 = .ok (.ldc 186, 2) := by decide +kernel
theorem dX8_costs_13 : decode cX8_costs 13 = .ok (.ireturn, 1) := by decide +kernel
theorem dX8_costs_14 : decode cX8_costs 14 = .ok (.aload_n 0, 1) := by decide +kernel
theorem dX8_costs_15 : decode cX8_costs 15 = .ok (.getfield 38, 3) := by decide +kernel
theorem dX8_costs_18 : decode cX8_costs 18 = .ok (.aload_n 0, 1) := by decide +kernel
theorem dX8_costs_19 : decode cX8_costs 19 = .ok (.getfield 14, 3) := by decide +kernel
theorem dX8_costs_22 : decode cX8_costs 22 = .ok (.invokevirtual 210, 3) := by decide +kernel
theorem dX8_costs_25 : decode cX8_costs 25 = .ok (.aload_n 0, 1) := by decide +kernel
theorem dX8_costs_26 : decode cX8_costs 26 = .ok (.getfield 38, 3) := by decide +kernel
theorem dX8_costs_29 : decode cX8_costs 29 = .ok (.aload_n 0, 1) := by decide +kernel
theorem dX8_costs_30 : decode cX8_costs 30 = .ok (.getfield 21, 3) := by decide +kernel
theorem dX8_costs_33 : decode cX8_costs 33 = .ok (.getfield 187, 3) := by decide +kernel
theorem dX8_costs_36 : decode cX8_costs 36 = .ok (.iload_n 1, 1) := by decide +kernel
theorem dX8_costs_37 : decode cX8_costs 37 = .ok (.iaload, 1) := by decide +kernel
theorem dX8_costs_38 : decode cX8_costs 38 = .ok (.aload_n 0, 1) := by decide +kernel
theorem dX8_costs_39 : decode cX8_costs 39 = .ok (.getfield 21, 3) := by decide +kernel
theorem dX8_costs_42 : decode cX8_costs 42 = .ok (.getfield 182, 3) := by decide +kernel
theorem dX8_costs_45 : decode cX8_costs 45 = .ok (.iload_n 1, 1) := by decide +kernel
theorem dX8_costs_46 : decode cX8_costs 46 = .ok (.baload, 1) := by decide +kernel
theorem dX8_costs_47 : decode cX8_costs 47 = .ok (.aload_n 0, 1) := by decide +kernel
theorem dX8_costs_48 : decode cX8_costs 48 = .ok (.getfield 21, 3) := by decide +kernel
theorem dX8_costs_51 : decode cX8_costs 51 = .ok (.getfield 195, 3) := by decide +kernel
theorem dX8_costs_54 : decode cX8_costs 54 = .ok (.iload_n 1, 1) := by decide +kernel
theorem dX8_costs_55 : decode cX8_costs 55 = .ok (.iaload, 1) := by decide +kernel
theorem dX8_costs_56 : decode cX8_costs 56 = .ok (.invokevirtual 207, 3) := by decide +kernel
theorem dX8_costs_59 : decode cX8_costs 59 = .ok (.pop, 1) := by decide +kernel
theorem dX8_costs_60 : decode cX8_costs 60 = .ok (.aload_n 0, 1) := by decide +kernel
theorem dX8_costs_61 : decode cX8_costs 61 = .ok (.getfield 14, 3) := by decide +kernel
theorem dX8_costs_64 : decode cX8_costs 64 = .ok (.invokevirtual 213, 3) := by decide +kernel
theorem dX8_costs_67 : decode cX8_costs 67 = .ok (.aload_n 0, 1) := by decide +kernel
theorem dX8_costs_68 : decode cX8_costs 68 = .ok (.getfield 38, 3) := by decide +kernel
theorem dX8_costs_71 : decode cX8_costs 71 = .ok (.invokevirtual 213, 3) := by decide +kernel
theorem dX8_costs_74 : decode cX8_costs 74 = .ok (.isub, 1) := by decide +kernel
theorem dX8_costs_75 : decode cX8_costs 75 = .ok (.ireturn, 1) := by decide +kernel
theorem dX8_why_0 : decode cX8_why 0 = .ok (.iload_n 1, 1) := by decide +kernel
theorem dX8_why_1 : decode cX8_why 1 = .ok (.ifCond .lt 8, 3) := by decide +kernel
theorem dX8_why_4 : decode cX8_why 4 = .ok (.iload_n 1, 1) := by decide +kernel
theorem dX8_why_5 : decode cX8_why 5 = .ok (.iconst 3, 1) := by decide +kernel
theorem dX8_why_6 : decode cX8_why 6 = .ok (.if_icmp .le 7, 3) := by decide +kernel
theorem dX8_why_9 : decode cX8_why 9 = .ok (.iconst (-1), 1) := by decide +kernel
theorem dX8_why_10 : decode cX8_why 10 = .ok (.goto 14, 3) := by decide +kernel
theorem dX8_why_13 : decode cX8_why 13 = .ok (.aload_n 0, 1) := by decide +kernel
theorem dX8_why_14 : decode cX8_why 14 = .ok (.getfield 14, 3) := by decide +kernel
theorem dX8_why_17 : decode cX8_why 17 = .ok (.getfield 216, 3) := by decide +kernel
theorem dX8_why_20 : decode cX8_why 20 = .ok (.iload_n 1, 1) := by decide +kernel
theorem dX8_why_21 : decode cX8_why 21 = .ok (.invokevirtual 220, 3) := by decide +kernel
theorem dX8_why_24 : decode cX8_why 24 = .ok (.ireturn, 1) := by decide +kernel
theorem dX8_queue_0 : decode cX8_queue 0 = .ok (.aload_n 0, 1) := by decide +kernel
theorem dX8_queue_1 : decode cX8_queue 1 = .ok (.getfield 14, 3) := by decide +kernel
theorem dX8_queue_4 : decode cX8_queue 4 = .ok (.iload_n 1, 1) := by decide +kernel
theorem dX8_queue_5 : decode cX8_queue 5 = .ok (.invokevirtual 79, 3) := by decide +kernel
theorem dX8_queue_8 : decode cX8_queue 8 = .ok (.ifCond .eq 9, 3) := by decide +kernel
theorem dX8_queue_11 : decode cX8_queue 11 = .ok (.iload_n 2, 1) := by decide +kernel
theorem dX8_queue_12 : decode cX8_queue 12 = .ok (.bipush (-2), 2) := by decide +kernel
theorem dX8_queue_14 : decode cX8_queue 14 = .ok (.if_icmp .ge 5, 3) := by decide +kernel
theorem dX8_queue_17 : decode cX8_queue 17 = .ok (.iconst (-1), 1) := by decide +kernel
theorem dX8_queue_18 : decode cX8_queue 18 = .ok (.ireturn, 1) := by decide +kernel
theorem dX8_queue_19 : decode cX8_queue 19 = .ok (.aload_n 0, 1) := by decide +kernel
theorem dX8_queue_20 : decode cX8_queue 20 = .ok (.iload_n 1, 1) := by decide +kernel
theorem dX8_queue_21 : decode cX8_queue 21 = .ok (.invokevirtual 224, 3) := by decide +kernel
theorem dX8_queue_24 : decode cX8_queue 24 = .ok (.iload_n 2, 1) := by decide +kernel
theorem dX8_queue_25 : decode cX8_queue 25 = .ok (.ifCond .ge 26, 3) := by decide +kernel
theorem dX8_queue_28 : decode cX8_queue 28 = .ok (.iload_n 2, 1) := by decide +kernel
theorem dX8_queue_29 : decode cX8_queue 29 = .ok (.iconst (-1), 1) := by decide +kernel
theorem dX8_queue_30 : decode cX8_queue 30 = .ok (.if_icmp .ne 13, 3) := by decide +kernel
theorem dX8_queue_33 : decode cX8_queue 33 = .ok (.aload_n 0, 1) := by decide +kernel
theorem dX8_queue_34 : decode cX8_queue 34 = .ok (.getfield 47, 3) := by decide +kernel
theorem dX8_queue_37 : decode cX8_queue 37 = .ok (.getfield 227, 3) := by decide +kernel
theorem dX8_queue_40 : decode cX8_queue 40 = .ok (.goto 10, 3) := by decide +kernel
theorem dX8_queue_43 : decode cX8_queue 43 = .ok (.aload_n 0, 1) := by decide +kernel
theorem dX8_queue_44 : decode cX8_queue 44 = .ok (.getfield 51, 3) := by decide +kernel
theorem dX8_queue_47 : decode cX8_queue 47 = .ok (.getfield 227, 3) := by decide +kernel
theorem dX8_queue_50 : decode cX8_queue 50 = .ok (.ireturn, 1) := by decide +kernel
theorem dX8_queue_51 : decode cX8_queue 51 = .ok (.iload_n 2, 1) := by decide +kernel
theorem dX8_queue_52 : decode cX8_queue 52 = .ok (.bipush 20, 2) := by decide +kernel
theorem dX8_queue_54 : decode cX8_queue 54 = .ok (.if_icmp .ge 14, 3) := by decide +kernel
theorem dX8_queue_57 : decode cX8_queue 57 = .ok (.aload_n 0, 1) := by decide +kernel
theorem dX8_queue_58 : decode cX8_queue 58 = .ok (.getfield 47, 3) := by decide +kernel
theorem dX8_queue_61 : decode cX8_queue 61 = .ok (.iload_n 2, 1) := by decide +kernel
theorem dX8_queue_62 : decode cX8_queue 62 = .ok (.invokevirtual 228, 3) := by decide +kernel
theorem dX8_queue_65 : decode cX8_queue 65 = .ok (.goto 14, 3) := by decide +kernel
theorem dX8_queue_68 : decode cX8_queue 68 = .ok (.aload_n 0, 1) := by decide +kernel
theorem dX8_queue_69 : decode cX8_queue 69 = .ok (.getfield 51, 3) := by decide +kernel
theorem dX8_queue_72 : decode cX8_queue 72 = .ok (.iload_n 2, 1) := by decide +kernel
theorem dX8_queue_73 : decode cX8_queue 73 = .ok (.bipush 20, 2) := by decide +kernel
theorem dX8_queue_75 : decode cX8_queue 75 = .ok (.isub, 1) := by decide +kernel
theorem dX8_queue_76 : decode cX8_queue 76 = .ok (.invokevirtual 228, 3) := by decide +kernel
theorem dX8_queue_79 : decode cX8_queue 79 = .ok (.ireturn, 1) := by decide +kernel
theorem dX8_lineUp_0 : decode cX8_lineUp 0 = .ok (.aload_n 0, 1) := by decide +kernel
theorem dX8_lineUp_1 : decode cX8_lineUp 1 = .ok (.getfield 47, 3) := by decide +kernel
theorem dX8_lineUp_4 : decode cX8_lineUp 4 = .ok (.aload_n 0, 1) := by decide +kernel
theorem dX8_lineUp_5 : decode cX8_lineUp 5 = .ok (.getfield 21, 3) := by decide +kernel
theorem dX8_lineUp_8 : decode cX8_lineUp 8 = .ok (.iload_n 1, 1) := by decide +kernel
theorem dX8_lineUp_9 : decode cX8_lineUp 9 = .ok (.iconst 1, 1) := by decide +kernel
theorem dX8_lineUp_10 : decode cX8_lineUp 10 = .ok (.invokevirtual 231, 3) := by decide +kernel
theorem dX8_lineUp_13 : decode cX8_lineUp 13 = .ok (.aload_n 0, 1) := by decide +kernel
theorem dX8_lineUp_14 : decode cX8_lineUp 14 = .ok (.getfield 51, 3) := by decide +kernel
theorem dX8_lineUp_17 : decode cX8_lineUp 17 = .ok (.aload_n 0, 1) := by decide +kernel
theorem dX8_lineUp_18 : decode cX8_lineUp 18 = .ok (.getfield 21, 3) := by decide +kernel
theorem dX8_lineUp_21 : decode cX8_lineUp 21 = .ok (.iload_n 1, 1) := by decide +kernel
theorem dX8_lineUp_22 : decode cX8_lineUp 22 = .ok (.iconst 1, 1) := by decide +kernel
theorem dX8_lineUp_23 : decode cX8_lineUp 23 = .ok (.iadd, 1) := by decide +kernel
theorem dX8_lineUp_24 : decode cX8_lineUp 24 = .ok (.iconst 0, 1) := by decide +kernel
theorem dX8_lineUp_25 : decode cX8_lineUp 25 = .ok (.invokevirtual 231, 3) := by decide +kernel
theorem dX8_lineUp_28 : decode cX8_lineUp 28 = .ok (.return_, 1) := by decide +kernel
theorem dX8_orders_0 : decode cX8_orders 0 = .ok (.aload_n 0, 1) := by decide +kernel
theorem dX8_orders_1 : decode cX8_orders 1 = .ok (.getfield 14, 3) := by decide +kernel
theorem dX8_orders_4 : decode cX8_orders 4 = .ok (.iload_n 1, 1) := by decide +kernel
theorem dX8_orders_5 : decode cX8_orders 5 = .ok (.invokevirtual 79, 3) := by decide +kernel
theorem dX8_orders_8 : decode cX8_orders 8 = .ok (.ifCond .ne 5, 3) := by decide +kernel
theorem dX8_orders_11 : decode cX8_orders 11 = .ok (.iconst (-1), 1) := by decide +kernel
theorem dX8_orders_12 : decode cX8_orders 12 = .ok (.ireturn, 1) := by decide +kernel
theorem dX8_orders_13 : decode cX8_orders 13 = .ok (.aload_n 0, 1) := by decide +kernel
theorem dX8_orders_14 : decode cX8_orders 14 = .ok (.iload_n 1, 1) := by decide +kernel
theorem dX8_orders_15 : decode cX8_orders 15 = .ok (.invokevirtual 235, 3) := by decide +kernel
theorem dX8_orders_18 : decode cX8_orders 18 = .ok (.aload_n 0, 1) := by decide +kernel
theorem dX8_orders_19 : decode cX8_orders 19 = .ok (.getfield 64, 3) := by decide +kernel
theorem dX8_orders_22 : decode cX8_orders 22 = .ok (.getfield 238, 3) := by decide +kernel
theorem dX8_orders_25 : decode cX8_orders 25 = .ok (.ireturn, 1) := by decide +kernel
theorem dX8_weaveOrders_0 : decode cX8_weaveOrders 0 = .ok (.aload_n 0, 1) := by decide +kernel
theorem dX8_weaveOrders_1 : decode cX8_weaveOrders 1 = .ok (.iload_n 1, 1) := by decide +kernel
theorem dX8_weaveOrders_2 : decode cX8_weaveOrders 2 = .ok (.invokevirtual 224, 3) := by decide +kernel
theorem dX8_weaveOrders_5 : decode cX8_weaveOrders 5 = .ok (.aload_n 0, 1) := by decide +kernel
theorem dX8_weaveOrders_6 : decode cX8_weaveOrders 6 = .ok (.getfield 64, 3) := by decide +kernel
theorem dX8_weaveOrders_9 : decode cX8_weaveOrders 9 = .ok (.aload_n 0, 1) := by decide +kernel
theorem dX8_weaveOrders_10 : decode cX8_weaveOrders 10 = .ok (.getfield 47, 3) := by decide +kernel
theorem dX8_weaveOrders_13 : decode cX8_weaveOrders 13 = .ok (.aload_n 0, 1) := by decide +kernel
theorem dX8_weaveOrders_14 : decode cX8_weaveOrders 14 = .ok (.getfield 51, 3) := by decide +kernel
theorem dX8_weaveOrders_17 : decode cX8_weaveOrders 17 = .ok (.invokevirtual 241, 3) := by decide +kernel
theorem dX8_weaveOrders_20 : decode cX8_weaveOrders 20 = .ok (.aload_n 0, 1) := by decide +kernel
theorem dX8_weaveOrders_21 : decode cX8_weaveOrders 21 = .ok (.getfield 38, 3) := by decide +kernel
theorem dX8_weaveOrders_24 : decode cX8_weaveOrders 24 = .ok (.aload_n 0, 1) := by decide +kernel
theorem dX8_weaveOrders_25 : decode cX8_weaveOrders 25 = .ok (.getfield 14, 3) := by decide +kernel
theorem dX8_weaveOrders_28 : decode cX8_weaveOrders 28 = .ok (.invokevirtual 210, 3) := by decide +kernel
theorem dX8_weaveOrders_31 : decode cX8_weaveOrders 31 = .ok (.iconst 1, 1) := by decide +kernel
theorem dX8_weaveOrders_32 : decode cX8_weaveOrders 32 = .ok (.aload_n 0, 1) := by decide +kernel
theorem dX8_weaveOrders_33 : decode cX8_weaveOrders 33 = .ok (.getfield 64, 3) := by decide +kernel
theorem dX8_weaveOrders_36 : decode cX8_weaveOrders 36 = .ok (.getfield 245, 3) := by decide +kernel
theorem dX8_weaveOrders_39 : decode cX8_weaveOrders 39 = .ok (.ishl, 1) := by decide +kernel
theorem dX8_weaveOrders_40 : decode cX8_weaveOrders 40 = .ok (.istore_n 2, 1) := by decide +kernel
theorem dX8_weaveOrders_41 : decode cX8_weaveOrders 41 = .ok (.iconst 0, 1) := by decide +kernel
theorem dX8_weaveOrders_42 : decode cX8_weaveOrders 42 = .ok (.istore_n 3, 1) := by decide +kernel
theorem dX8_weaveOrders_43 : decode cX8_weaveOrders 43 = .ok (.iload_n 3, 1) := by decide +kernel
theorem dX8_weaveOrders_44 : decode cX8_weaveOrders 44 = .ok (.iload_n 2, 1) := by decide +kernel
theorem dX8_weaveOrders_45 : decode cX8_weaveOrders 45 = .ok (.if_icmp .ge 46, 3) := by decide +kernel
theorem dX8_weaveOrders_48 : decode cX8_weaveOrders 48 = .ok (.aload_n 0, 1) := by decide +kernel
theorem dX8_weaveOrders_49 : decode cX8_weaveOrders 49 = .ok (.getfield 64, 3) := by decide +kernel
theorem dX8_weaveOrders_52 : decode cX8_weaveOrders 52 = .ok (.iload_n 3, 1) := by decide +kernel
theorem dX8_weaveOrders_53 : decode cX8_weaveOrders 53 = .ok (.invokevirtual 248, 3) := by decide +kernel
theorem dX8_weaveOrders_56 : decode cX8_weaveOrders 56 = .ok (.ifCond .eq 29, 3) := by decide +kernel
theorem dX8_weaveOrders_59 : decode cX8_weaveOrders 59 = .ok (.aload_n 0, 1) := by decide +kernel
theorem dX8_weaveOrders_60 : decode cX8_weaveOrders 60 = .ok (.getfield 38, 3) := by decide +kernel
theorem dX8_weaveOrders_63 : decode cX8_weaveOrders 63 = .ok (.aload_n 0, 1) := by decide +kernel
theorem dX8_weaveOrders_64 : decode cX8_weaveOrders 64 = .ok (.getfield 14, 3) := by decide +kernel
theorem dX8_weaveOrders_67 : decode cX8_weaveOrders 67 = .ok (.iload_n 1, 1) := by decide +kernel
theorem dX8_weaveOrders_68 : decode cX8_weaveOrders 68 = .ok (.invokevirtual 251, 3) := by decide +kernel
theorem dX8_weaveOrders_71 : decode cX8_weaveOrders 71 = .ok (.aload_n 0, 1) := by decide +kernel
theorem dX8_weaveOrders_72 : decode cX8_weaveOrders 72 = .ok (.getfield 64, 3) := by decide +kernel
theorem dX8_weaveOrders_75 : decode cX8_weaveOrders 75 = .ok (.iload_n 3, 1) := by decide +kernel
theorem dX8_weaveOrders_76 : decode cX8_weaveOrders 76 = .ok (.aload_n 0, 1) := by decide +kernel
theorem dX8_weaveOrders_77 : decode cX8_weaveOrders 77 = .ok (.iload_n 1, 1) := by decide +kernel
theorem dX8_weaveOrders_78 : decode cX8_weaveOrders 78 = .ok (.iload_n 3, 1) := by decide +kernel
theorem dX8_weaveOrders_79 : decode cX8_weaveOrders 79 = .ok (.invokevirtual 255, 3) := by decide +kernel
theorem dX8_weaveOrders_82 : decode cX8_weaveOrders 82 = .ok (.invokevirtual 258, 3) := by decide +kernel
theorem dX8_weaveOrders_85 : decode cX8_weaveOrders 85 = .ok (.iinc 3 1, 3) := by decide +kernel
theorem dX8_weaveOrders_88 : decode cX8_weaveOrders 88 = .ok (.goto (-45), 3) := by decide +kernel
theorem dX8_weaveOrders_91 : decode cX8_weaveOrders 91 = .ok (.return_, 1) := by decide +kernel
theorem dX8_spentByOrder_0 : decode cX8_spentByOrder 0 = .ok (.iconst 0, 1) := by decide +kernel
theorem dX8_spentByOrder_1 : decode cX8_spentByOrder 1 = .ok (.istore_n 3, 1) := by decide +kernel
theorem dX8_spentByOrder_2 : decode cX8_spentByOrder 2 = .ok (.iconst 0, 1) := by decide +kernel
theorem dX8_spentByOrder_3 : decode cX8_spentByOrder 3 = .ok (.istore 4, 2) := by decide +kernel
theorem dX8_spentByOrder_5 : decode cX8_spentByOrder 5 = .ok (.iconst 0, 1) := by decide +kernel
theorem dX8_spentByOrder_6 : decode cX8_spentByOrder 6 = .ok (.istore 5, 2) := by decide +kernel
theorem dX8_spentByOrder_8 : decode cX8_spentByOrder 8 = .ok (.iconst 0, 1) := by decide +kernel
theorem dX8_spentByOrder_9 : decode cX8_spentByOrder 9 = .ok (.istore 6, 2) := by decide +kernel
theorem dX8_spentByOrder_11 : decode cX8_spentByOrder 11 = .ok (.iload 6, 2) := by decide +kernel
theorem dX8_spentByOrder_13 : decode cX8_spentByOrder 13 = .ok (.aload_n 0, 1) := by decide +kernel
theorem dX8_spentByOrder_14 : decode cX8_spentByOrder 14 = .ok (.getfield 64, 3) := by decide +kernel
theorem dX8_spentByOrder_17 : decode cX8_spentByOrder 17 = .ok (.getfield 245, 3) := by decide +kernel
theorem dX8_spentByOrder_20 : decode cX8_spentByOrder 20 = .ok (.if_icmp .ge 91, 3) := by decide +kernel
theorem dX8_spentByOrder_23 : decode cX8_spentByOrder 23 = .ok (.aload_n 0, 1) := by decide +kernel
theorem dX8_spentByOrder_24 : decode cX8_spentByOrder 24 = .ok (.getfield 64, 3) := by decide +kernel
theorem dX8_spentByOrder_27 : decode cX8_spentByOrder 27 = .ok (.iload_n 2, 1) := by decide +kernel
theorem dX8_spentByOrder_28 : decode cX8_spentByOrder 28 = .ok (.iload 6, 2) := by decide +kernel
theorem dX8_spentByOrder_30 : decode cX8_spentByOrder 30 = .ok (.invokevirtual 261, 3) := by decide +kernel
theorem dX8_spentByOrder_33 : decode cX8_spentByOrder 33 = .ok (.istore 7, 2) := by decide +kernel
theorem dX8_spentByOrder_35 : decode cX8_spentByOrder 35 = .ok (.iload 7, 2) := by decide +kernel
theorem dX8_spentByOrder_37 : decode cX8_spentByOrder 37 = .ok (.ifCond .eq 18, 3) := by decide +kernel
theorem dX8_spentByOrder_40 : decode cX8_spentByOrder 40 = .ok (.aload_n 0, 1) := by decide +kernel
theorem dX8_spentByOrder_41 : decode cX8_spentByOrder 41 = .ok (.getfield 47, 3) := by decide +kernel
theorem dX8_spentByOrder_44 : decode cX8_spentByOrder 44 = .ok (.iload 4, 2) := by decide +kernel
theorem dX8_spentByOrder_46 : decode cX8_spentByOrder 46 = .ok (.iinc 4 1, 3) := by decide +kernel
theorem dX8_spentByOrder_49 : decode cX8_spentByOrder 49 = .ok (.invokevirtual 228, 3) := by decide +kernel
theorem dX8_spentByOrder_52 : decode cX8_spentByOrder 52 = .ok (.goto 15, 3) := by decide +kernel
theorem dX8_spentByOrder_55 : decode cX8_spentByOrder 55 = .ok (.aload_n 0, 1) := by decide +kernel
theorem dX8_spentByOrder_56 : decode cX8_spentByOrder 56 = .ok (.getfield 51, 3) := by decide +kernel
theorem dX8_spentByOrder_59 : decode cX8_spentByOrder 59 = .ok (.iload 5, 2) := by decide +kernel
theorem dX8_spentByOrder_61 : decode cX8_spentByOrder 61 = .ok (.iinc 5 1, 3) := by decide +kernel
theorem dX8_spentByOrder_64 : decode cX8_spentByOrder 64 = .ok (.invokevirtual 228, 3) := by decide +kernel
theorem dX8_spentByOrder_67 : decode cX8_spentByOrder 67 = .ok (.istore 8, 2) := by decide +kernel
theorem dX8_spentByOrder_69 : decode cX8_spentByOrder 69 = .ok (.aload_n 0, 1) := by decide +kernel
theorem dX8_spentByOrder_70 : decode cX8_spentByOrder 70 = .ok (.getfield 38, 3) := by decide +kernel
theorem dX8_spentByOrder_73 : decode cX8_spentByOrder 73 = .ok (.iload_n 1, 1) := by decide +kernel
theorem dX8_spentByOrder_74 : decode cX8_spentByOrder 74 = .ok (.iload 7, 2) := by decide +kernel
theorem dX8_spentByOrder_76 : decode cX8_spentByOrder 76 = .ok (.aload_n 0, 1) := by decide +kernel
theorem dX8_spentByOrder_77 : decode cX8_spentByOrder 77 = .ok (.getfield 21, 3) := by decide +kernel
theorem dX8_spentByOrder_80 : decode cX8_spentByOrder 80 = .ok (.iload 8, 2) := by decide +kernel
theorem dX8_spentByOrder_82 : decode cX8_spentByOrder 82 = .ok (.invokevirtual 264, 3) := by decide +kernel
theorem dX8_spentByOrder_85 : decode cX8_spentByOrder 85 = .ok (.invokevirtual 198, 3) := by decide +kernel
theorem dX8_spentByOrder_88 : decode cX8_spentByOrder 88 = .ok (.istore 9, 2) := by decide +kernel
theorem dX8_spentByOrder_90 : decode cX8_spentByOrder 90 = .ok (.iload 9, 2) := by decide +kernel
theorem dX8_spentByOrder_92 : decode cX8_spentByOrder 92 = .ok (.ldc 202, 2) := by decide +kernel
theorem dX8_spentByOrder_94 : decode cX8_spentByOrder 94 = .ok (.if_icmp .ne 6, 3) := by decide +kernel
theorem dX8_spentByOrder_97 : decode cX8_spentByOrder 97 = .ok (.ldc 202, 2) := by decide +kernel
theorem dX8_spentByOrder_99 : decode cX8_spentByOrder 99 = .ok (.ireturn, 1) := by decide +kernel
theorem dX8_spentByOrder_100 : decode cX8_spentByOrder 100 = .ok (.iload_n 3, 1) := by decide +kernel
theorem dX8_spentByOrder_101 : decode cX8_spentByOrder 101 = .ok (.iload 9, 2) := by decide +kernel
theorem dX8_spentByOrder_103 : decode cX8_spentByOrder 103 = .ok (.iadd, 1) := by decide +kernel
theorem dX8_spentByOrder_104 : decode cX8_spentByOrder 104 = .ok (.istore_n 3, 1) := by decide +kernel
theorem dX8_spentByOrder_105 : decode cX8_spentByOrder 105 = .ok (.iinc 6 1, 3) := by decide +kernel
theorem dX8_spentByOrder_108 : decode cX8_spentByOrder 108 = .ok (.goto (-97), 3) := by decide +kernel
theorem dX8_spentByOrder_111 : decode cX8_spentByOrder 111 = .ok (.iload_n 3, 1) := by decide +kernel
theorem dX8_spentByOrder_112 : decode cX8_spentByOrder 112 = .ok (.ireturn, 1) := by decide +kernel
theorem dX8_best_0 : decode cX8_best 0 = .ok (.aload_n 0, 1) := by decide +kernel
theorem dX8_best_1 : decode cX8_best 1 = .ok (.getfield 14, 3) := by decide +kernel
theorem dX8_best_4 : decode cX8_best 4 = .ok (.iload_n 1, 1) := by decide +kernel
theorem dX8_best_5 : decode cX8_best 5 = .ok (.invokevirtual 79, 3) := by decide +kernel
theorem dX8_best_8 : decode cX8_best 8 = .ok (.ifCond .eq 8, 3) := by decide +kernel
theorem dX8_best_11 : decode cX8_best 11 = .ok (.iload_n 2, 1) := by decide +kernel
theorem dX8_best_12 : decode cX8_best 12 = .ok (.iconst (-1), 1) := by decide +kernel
theorem dX8_best_13 : decode cX8_best 13 = .ok (.if_icmp .ge 6, 3) := by decide +kernel
theorem dX8_best_16 : decode cX8_best 16 = .ok (.ldc 186, 2) := by decide +kernel
theorem dX8_best_18 : decode cX8_best 18 = .ok (.ireturn, 1) := by decide +kernel
theorem dX8_best_19 : decode cX8_best 19 = .ok (.aload_n 0, 1) := by decide +kernel
theorem dX8_best_20 : decode cX8_best 20 = .ok (.iload_n 1, 1) := by decide +kernel
theorem dX8_best_21 : decode cX8_best 21 = .ok (.invokevirtual 235, 3) := by decide +kernel
theorem dX8_best_24 : decode cX8_best 24 = .ok (.aload_n 0, 1) := by decide +kernel
theorem dX8_best_25 : decode cX8_best 25 = .ok (.getfield 64, 3) := by decide +kernel
theorem dX8_best_28 : decode cX8_best 28 = .ok (.getfield 238, 3) := by decide +kernel
theorem dX8_best_31 : decode cX8_best 31 = .ok (.ifCond .eq 14, 3) := by decide +kernel
theorem dX8_best_34 : decode cX8_best 34 = .ok (.iload_n 2, 1) := by decide +kernel
theorem dX8_best_35 : decode cX8_best 35 = .ok (.aload_n 0, 1) := by decide +kernel
theorem dX8_best_36 : decode cX8_best 36 = .ok (.getfield 64, 3) := by decide +kernel
theorem dX8_best_39 : decode cX8_best 39 = .ok (.getfield 245, 3) := by decide +kernel
theorem dX8_best_42 : decode cX8_best 42 = .ok (.if_icmp .lt 6, 3) := by decide +kernel
theorem dX8_best_45 : decode cX8_best 45 = .ok (.ldc 194, 2) := by decide +kernel
theorem dX8_best_47 : decode cX8_best 47 = .ok (.ireturn, 1) := by decide +kernel
theorem dX8_best_48 : decode cX8_best 48 = .ok (.iload_n 2, 1) := by decide +kernel
theorem dX8_best_49 : decode cX8_best 49 = .ok (.iconst (-1), 1) := by decide +kernel
theorem dX8_best_50 : decode cX8_best 50 = .ok (.if_icmp .ne 13, 3) := by decide +kernel
theorem dX8_best_53 : decode cX8_best 53 = .ok (.aload_n 0, 1) := by decide +kernel
theorem dX8_best_54 : decode cX8_best 54 = .ok (.getfield 64, 3) := by decide +kernel
theorem dX8_best_57 : decode cX8_best 57 = .ok (.getfield 267, 3) := by decide +kernel
theorem dX8_best_60 : decode cX8_best 60 = .ok (.goto 8, 3) := by decide +kernel
theorem dX8_best_63 : decode cX8_best 63 = .ok (.aload_n 0, 1) := by decide +kernel
theorem dX8_best_64 : decode cX8_best 64 = .ok (.iload_n 2, 1) := by decide +kernel
theorem dX8_best_65 : decode cX8_best 65 = .ok (.invokevirtual 270, 3) := by decide +kernel
theorem dX8_best_68 : decode cX8_best 68 = .ok (.ireturn, 1) := by decide +kernel
theorem dX8_boatOfBest_0 : decode cX8_boatOfBest 0 = .ok (.aload_n 0, 1) := by decide +kernel
theorem dX8_boatOfBest_1 : decode cX8_boatOfBest 1 = .ok (.getfield 64, 3) := by decide +kernel
theorem dX8_boatOfBest_4 : decode cX8_boatOfBest 4 = .ok (.getfield 273, 3) := by decide +kernel
theorem dX8_boatOfBest_7 : decode cX8_boatOfBest 7 = .ok (.istore_n 2, 1) := by decide +kernel
theorem dX8_boatOfBest_8 : decode cX8_boatOfBest 8 = .ok (.iconst 0, 1) := by decide +kernel
theorem dX8_boatOfBest_9 : decode cX8_boatOfBest 9 = .ok (.istore_n 3, 1) := by decide +kernel
theorem dX8_boatOfBest_10 : decode cX8_boatOfBest 10 = .ok (.iconst 0, 1) := by decide +kernel
theorem dX8_boatOfBest_11 : decode cX8_boatOfBest 11 = .ok (.istore 4, 2) := by decide +kernel
theorem dX8_boatOfBest_13 : decode cX8_boatOfBest 13 = .ok (.iload 4, 2) := by decide +kernel
theorem dX8_boatOfBest_15 : decode cX8_boatOfBest 15 = .ok (.iload_n 1, 1) := by decide +kernel
theorem dX8_boatOfBest_16 : decode cX8_boatOfBest 16 = .ok (.if_icmp .ge 25, 3) := by decide +kernel
theorem dX8_boatOfBest_19 : decode cX8_boatOfBest 19 = .ok (.aload_n 0, 1) := by decide +kernel
theorem dX8_boatOfBest_20 : decode cX8_boatOfBest 20 = .ok (.getfield 64, 3) := by decide +kernel
theorem dX8_boatOfBest_23 : decode cX8_boatOfBest 23 = .ok (.iload_n 2, 1) := by decide +kernel
theorem dX8_boatOfBest_24 : decode cX8_boatOfBest 24 = .ok (.iload 4, 2) := by decide +kernel
theorem dX8_boatOfBest_26 : decode cX8_boatOfBest 26 = .ok (.invokevirtual 261, 3) := by decide +kernel
theorem dX8_boatOfBest_29 : decode cX8_boatOfBest 29 = .ok (.ifCond .eq 6, 3) := by decide +kernel
theorem dX8_boatOfBest_32 : decode cX8_boatOfBest 32 = .ok (.iinc 3 1, 3) := by decide +kernel
theorem dX8_boatOfBest_35 : decode cX8_boatOfBest 35 = .ok (.iinc 4 1, 3) := by decide +kernel
theorem dX8_boatOfBest_38 : decode cX8_boatOfBest 38 = .ok (.goto (-25), 3) := by decide +kernel
theorem dX8_boatOfBest_41 : decode cX8_boatOfBest 41 = .ok (.aload_n 0, 1) := by decide +kernel
theorem dX8_boatOfBest_42 : decode cX8_boatOfBest 42 = .ok (.getfield 64, 3) := by decide +kernel
theorem dX8_boatOfBest_45 : decode cX8_boatOfBest 45 = .ok (.iload_n 2, 1) := by decide +kernel
theorem dX8_boatOfBest_46 : decode cX8_boatOfBest 46 = .ok (.iload_n 1, 1) := by decide +kernel
theorem dX8_boatOfBest_47 : decode cX8_boatOfBest 47 = .ok (.invokevirtual 261, 3) := by decide +kernel
theorem dX8_boatOfBest_50 : decode cX8_boatOfBest 50 = .ok (.ifCond .eq 14, 3) := by decide +kernel
theorem dX8_boatOfBest_53 : decode cX8_boatOfBest 53 = .ok (.aload_n 0, 1) := by decide +kernel
theorem dX8_boatOfBest_54 : decode cX8_boatOfBest 54 = .ok (.getfield 47, 3) := by decide +kernel
theorem dX8_boatOfBest_57 : decode cX8_boatOfBest 57 = .ok (.iload_n 3, 1) := by decide +kernel
theorem dX8_boatOfBest_58 : decode cX8_boatOfBest 58 = .ok (.invokevirtual 228, 3) := by decide +kernel
theorem dX8_boatOfBest_61 : decode cX8_boatOfBest 61 = .ok (.goto 13, 3) := by decide +kernel
theorem dX8_boatOfBest_64 : decode cX8_boatOfBest 64 = .ok (.aload_n 0, 1) := by decide +kernel
theorem dX8_boatOfBest_65 : decode cX8_boatOfBest 65 = .ok (.getfield 51, 3) := by decide +kernel
theorem dX8_boatOfBest_68 : decode cX8_boatOfBest 68 = .ok (.iload_n 1, 1) := by decide +kernel
theorem dX8_boatOfBest_69 : decode cX8_boatOfBest 69 = .ok (.iload_n 3, 1) := by decide +kernel
theorem dX8_boatOfBest_70 : decode cX8_boatOfBest 70 = .ok (.isub, 1) := by decide +kernel
theorem dX8_boatOfBest_71 : decode cX8_boatOfBest 71 = .ok (.invokevirtual 228, 3) := by decide +kernel
theorem dX8_boatOfBest_74 : decode cX8_boatOfBest 74 = .ok (.ireturn, 1) := by decide +kernel
theorem dX8_ruled_0 : decode cX8_ruled 0 = .ok (.aload_n 0, 1) := by decide +kernel
theorem dX8_ruled_1 : decode cX8_ruled 1 = .ok (.getfield 14, 3) := by decide +kernel
theorem dX8_ruled_4 : decode cX8_ruled 4 = .ok (.iload_n 1, 1) := by decide +kernel
theorem dX8_ruled_5 : decode cX8_ruled 5 = .ok (.invokevirtual 79, 3) := by decide +kernel
theorem dX8_ruled_8 : decode cX8_ruled 8 = .ok (.ifCond .eq 19, 3) := by decide +kernel
theorem dX8_ruled_11 : decode cX8_ruled 11 = .ok (.iload_n 2, 1) := by decide +kernel
theorem dX8_ruled_12 : decode cX8_ruled 12 = .ok (.invokestatic 276, 3) := by decide +kernel
theorem dX8_ruled_15 : decode cX8_ruled 15 = .ok (.ifCond .eq 12, 3) := by decide +kernel
theorem dX8_ruled_18 : decode cX8_ruled 18 = .ok (.iload_n 3, 1) := by decide +kernel
theorem dX8_ruled_19 : decode cX8_ruled 19 = .ok (.ifCond .lt 8, 3) := by decide +kernel
theorem dX8_ruled_22 : decode cX8_ruled 22 = .ok (.iload_n 3, 1) := by decide +kernel
theorem dX8_ruled_23 : decode cX8_ruled 23 = .ok (.iconst 2, 1) := by decide +kernel
theorem dX8_ruled_24 : decode cX8_ruled 24 = .ok (.if_icmp .le 6, 3) := by decide +kernel
theorem dX8_ruled_27 : decode cX8_ruled 27 = .ok (.ldc 186, 2) := by decide +kernel
theorem dX8_ruled_29 : decode cX8_ruled 29 = .ok (.ireturn, 1) := by decide +kernel
theorem dX8_ruled_30 : decode cX8_ruled 30 = .ok (.aload_n 0, 1) := by decide +kernel
theorem dX8_ruled_31 : decode cX8_ruled 31 = .ok (.iload_n 1, 1) := by decide +kernel
theorem dX8_ruled_32 : decode cX8_ruled 32 = .ok (.iload_n 2, 1) := by decide +kernel
theorem dX8_ruled_33 : decode cX8_ruled 33 = .ok (.invokevirtual 279, 3) := by decide +kernel
theorem dX8_ruled_36 : decode cX8_ruled 36 = .ok (.iload_n 3, 1) := by decide +kernel
theorem dX8_ruled_37 : decode cX8_ruled 37 = .ok (.lookupswitch 43 #[(0, 27), (1, 35)], 27) := by decide +kernel
theorem dX8_ruled_64 : decode cX8_ruled 64 = .ok (.aload_n 0, 1) := by decide +kernel
theorem dX8_ruled_65 : decode cX8_ruled 65 = .ok (.getfield 57, 3) := by decide +kernel
theorem dX8_ruled_68 : decode cX8_ruled 68 = .ok (.getfield 282, 3) := by decide +kernel
theorem dX8_ruled_71 : decode cX8_ruled 71 = .ok (.ireturn, 1) := by decide +kernel
theorem dX8_ruled_72 : decode cX8_ruled 72 = .ok (.aload_n 0, 1) := by decide +kernel
theorem dX8_ruled_73 : decode cX8_ruled 73 = .ok (.getfield 57, 3) := by decide +kernel
theorem dX8_ruled_76 : decode cX8_ruled 76 = .ok (.invokevirtual 285, 3) := by decide +kernel
theorem dX8_ruled_79 : decode cX8_ruled 79 = .ok (.ireturn, 1) := by decide +kernel
theorem dX8_ruled_80 : decode cX8_ruled 80 = .ok (.aload_n 0, 1) := by decide +kernel
theorem dX8_ruled_81 : decode cX8_ruled 81 = .ok (.getfield 38, 3) := by decide +kernel
theorem dX8_ruled_84 : decode cX8_ruled 84 = .ok (.getfield 288, 3) := by decide +kernel
theorem dX8_ruled_87 : decode cX8_ruled 87 = .ok (.iload_n 1, 1) := by decide +kernel
theorem dX8_ruled_88 : decode cX8_ruled 88 = .ok (.baload, 1) := by decide +kernel
theorem dX8_ruled_89 : decode cX8_ruled 89 = .ok (.ifCond .eq 7, 3) := by decide +kernel
theorem dX8_ruled_92 : decode cX8_ruled 92 = .ok (.iconst 1, 1) := by decide +kernel
theorem dX8_ruled_93 : decode cX8_ruled 93 = .ok (.goto 4, 3) := by decide +kernel
theorem dX8_ruled_96 : decode cX8_ruled 96 = .ok (.iconst 0, 1) := by decide +kernel
theorem dX8_ruled_97 : decode cX8_ruled 97 = .ok (.ireturn, 1) := by decide +kernel
theorem dX8_isRule_0 : decode cX8_isRule 0 = .ok (.iload_n 0, 1) := by decide +kernel
theorem dX8_isRule_1 : decode cX8_isRule 1 = .ok (.ifCond .lt 12, 3) := by decide +kernel
theorem dX8_isRule_4 : decode cX8_isRule 4 = .ok (.iload_n 0, 1) := by decide +kernel
theorem dX8_isRule_5 : decode cX8_isRule 5 = .ok (.iconst 4, 1) := by decide +kernel
theorem dX8_isRule_6 : decode cX8_isRule 6 = .ok (.if_icmp .ge 7, 3) := by decide +kernel
theorem dX8_isRule_9 : decode cX8_isRule 9 = .ok (.iconst 1, 1) := by decide +kernel
theorem dX8_isRule_10 : decode cX8_isRule 10 = .ok (.goto 4, 3) := by decide +kernel
theorem dX8_isRule_13 : decode cX8_isRule 13 = .ok (.iconst 0, 1) := by decide +kernel
theorem dX8_isRule_14 : decode cX8_isRule 14 = .ok (.ireturn, 1) := by decide +kernel
theorem dX8_runInThought_0 : decode cX8_runInThought 0 = .ok (.aload_n 0, 1) := by decide +kernel
theorem dX8_runInThought_1 : decode cX8_runInThought 1 = .ok (.iload_n 1, 1) := by decide +kernel
theorem dX8_runInThought_2 : decode cX8_runInThought 2 = .ok (.invokevirtual 224, 3) := by decide +kernel
theorem dX8_runInThought_5 : decode cX8_runInThought 5 = .ok (.aload_n 0, 1) := by decide +kernel
theorem dX8_runInThought_6 : decode cX8_runInThought 6 = .ok (.getfield 38, 3) := by decide +kernel
theorem dX8_runInThought_9 : decode cX8_runInThought 9 = .ok (.aload_n 0, 1) := by decide +kernel
theorem dX8_runInThought_10 : decode cX8_runInThought 10 = .ok (.getfield 14, 3) := by decide +kernel
theorem dX8_runInThought_13 : decode cX8_runInThought 13 = .ok (.invokevirtual 210, 3) := by decide +kernel
theorem dX8_runInThought_16 : decode cX8_runInThought 16 = .ok (.aload_n 0, 1) := by decide +kernel
theorem dX8_runInThought_17 : decode cX8_runInThought 17 = .ok (.getfield 57, 3) := by decide +kernel
theorem dX8_runInThought_20 : decode cX8_runInThought 20 = .ok (.aload_n 0, 1) := by decide +kernel
theorem dX8_runInThought_21 : decode cX8_runInThought 21 = .ok (.getfield 38, 3) := by decide +kernel
theorem dX8_runInThought_24 : decode cX8_runInThought 24 = .ok (.aload_n 0, 1) := by decide +kernel
theorem dX8_runInThought_25 : decode cX8_runInThought 25 = .ok (.getfield 21, 3) := by decide +kernel
theorem dX8_runInThought_28 : decode cX8_runInThought 28 = .ok (.aload_n 0, 1) := by decide +kernel
theorem dX8_runInThought_29 : decode cX8_runInThought 29 = .ok (.getfield 47, 3) := by decide +kernel
theorem dX8_runInThought_32 : decode cX8_runInThought 32 = .ok (.aload_n 0, 1) := by decide +kernel
theorem dX8_runInThought_33 : decode cX8_runInThought 33 = .ok (.getfield 51, 3) := by decide +kernel
theorem dX8_runInThought_36 : decode cX8_runInThought 36 = .ok (.iload_n 1, 1) := by decide +kernel
theorem dX8_runInThought_37 : decode cX8_runInThought 37 = .ok (.iload_n 2, 1) := by decide +kernel
theorem dX8_runInThought_38 : decode cX8_runInThought 38 = .ok (.invokevirtual 291, 3) := by decide +kernel
theorem dX8_runInThought_41 : decode cX8_runInThought 41 = .ok (.return_, 1) := by decide +kernel
theorem dX8_run_0 : decode cX8_run 0 = .ok (.aload_n 0, 1) := by decide +kernel
theorem dX8_run_1 : decode cX8_run 1 = .ok (.getfield 14, 3) := by decide +kernel
theorem dX8_run_4 : decode cX8_run 4 = .ok (.iload_n 1, 1) := by decide +kernel
theorem dX8_run_5 : decode cX8_run 5 = .ok (.invokevirtual 79, 3) := by decide +kernel
theorem dX8_run_8 : decode cX8_run 8 = .ok (.ifCond .eq 10, 3) := by decide +kernel
theorem dX8_run_11 : decode cX8_run 11 = .ok (.iload_n 2, 1) := by decide +kernel
theorem dX8_run_12 : decode cX8_run 12 = .ok (.invokestatic 276, 3) := by decide +kernel
theorem dX8_run_15 : decode cX8_run 15 = .ok (.ifCond .ne 5, 3) := by decide +kernel
theorem dX8_run_18 : decode cX8_run 18 = .ok (.iconst (-1), 1) := by decide +kernel
theorem dX8_run_19 : decode cX8_run 19 = .ok (.ireturn, 1) := by decide +kernel
theorem dX8_run_20 : decode cX8_run 20 = .ok (.aload_n 0, 1) := by decide +kernel
theorem dX8_run_21 : decode cX8_run 21 = .ok (.iload_n 1, 1) := by decide +kernel
theorem dX8_run_22 : decode cX8_run 22 = .ok (.invokevirtual 224, 3) := by decide +kernel
theorem dX8_run_25 : decode cX8_run 25 = .ok (.aload_n 0, 1) := by decide +kernel
theorem dX8_run_26 : decode cX8_run 26 = .ok (.getfield 57, 3) := by decide +kernel
theorem dX8_run_29 : decode cX8_run 29 = .ok (.aload_n 0, 1) := by decide +kernel
theorem dX8_run_30 : decode cX8_run 30 = .ok (.getfield 14, 3) := by decide +kernel
theorem dX8_run_33 : decode cX8_run 33 = .ok (.aload_n 0, 1) := by decide +kernel
theorem dX8_run_34 : decode cX8_run 34 = .ok (.getfield 21, 3) := by decide +kernel
theorem dX8_run_37 : decode cX8_run 37 = .ok (.aload_n 0, 1) := by decide +kernel
theorem dX8_run_38 : decode cX8_run 38 = .ok (.getfield 47, 3) := by decide +kernel
theorem dX8_run_41 : decode cX8_run 41 = .ok (.aload_n 0, 1) := by decide +kernel
theorem dX8_run_42 : decode cX8_run 42 = .ok (.getfield 51, 3) := by decide +kernel
theorem dX8_run_45 : decode cX8_run 45 = .ok (.iload_n 1, 1) := by decide +kernel
theorem dX8_run_46 : decode cX8_run 46 = .ok (.iload_n 2, 1) := by decide +kernel
theorem dX8_run_47 : decode cX8_run 47 = .ok (.invokevirtual 291, 3) := by decide +kernel
theorem dX8_run_50 : decode cX8_run 50 = .ok (.aload_n 0, 1) := by decide +kernel
theorem dX8_run_51 : decode cX8_run 51 = .ok (.aload_n 0, 1) := by decide +kernel
theorem dX8_run_52 : decode cX8_run 52 = .ok (.getfield 47, 3) := by decide +kernel
theorem dX8_run_55 : decode cX8_run 55 = .ok (.aload_n 0, 1) := by decide +kernel
theorem dX8_run_56 : decode cX8_run 56 = .ok (.getfield 57, 3) := by decide +kernel
theorem dX8_run_59 : decode cX8_run 59 = .ok (.getfield 295, 3) := by decide +kernel
theorem dX8_run_62 : decode cX8_run 62 = .ok (.invokevirtual 298, 3) := by decide +kernel
theorem dX8_run_65 : decode cX8_run 65 = .ok (.aload_n 0, 1) := by decide +kernel
theorem dX8_run_66 : decode cX8_run 66 = .ok (.aload_n 0, 1) := by decide +kernel
theorem dX8_run_67 : decode cX8_run 67 = .ok (.getfield 51, 3) := by decide +kernel
theorem dX8_run_70 : decode cX8_run 70 = .ok (.aload_n 0, 1) := by decide +kernel
theorem dX8_run_71 : decode cX8_run 71 = .ok (.getfield 57, 3) := by decide +kernel
theorem dX8_run_74 : decode cX8_run 74 = .ok (.getfield 302, 3) := by decide +kernel
theorem dX8_run_77 : decode cX8_run 77 = .ok (.invokevirtual 298, 3) := by decide +kernel
theorem dX8_run_80 : decode cX8_run 80 = .ok (.aload_n 0, 1) := by decide +kernel
theorem dX8_run_81 : decode cX8_run 81 = .ok (.getfield 57, 3) := by decide +kernel
theorem dX8_run_84 : decode cX8_run 84 = .ok (.invokevirtual 285, 3) := by decide +kernel
theorem dX8_run_87 : decode cX8_run 87 = .ok (.ireturn, 1) := by decide +kernel
theorem dX8_moveOnFirst_0 : decode cX8_moveOnFirst 0 = .ok (.iconst 0, 1) := by decide +kernel
theorem dX8_moveOnFirst_1 : decode cX8_moveOnFirst 1 = .ok (.istore_n 3, 1) := by decide +kernel
theorem dX8_moveOnFirst_2 : decode cX8_moveOnFirst 2 = .ok (.iload_n 3, 1) := by decide +kernel
theorem dX8_moveOnFirst_3 : decode cX8_moveOnFirst 3 = .ok (.iload_n 2, 1) := by decide +kernel
theorem dX8_moveOnFirst_4 : decode cX8_moveOnFirst 4 = .ok (.if_icmp .ge 22, 3) := by decide +kernel
theorem dX8_moveOnFirst_7 : decode cX8_moveOnFirst 7 = .ok (.aload_n 0, 1) := by decide +kernel
theorem dX8_moveOnFirst_8 : decode cX8_moveOnFirst 8 = .ok (.getfield 21, 3) := by decide +kernel
theorem dX8_moveOnFirst_11 : decode cX8_moveOnFirst 11 = .ok (.aload_n 1, 1) := by decide +kernel
theorem dX8_moveOnFirst_12 : decode cX8_moveOnFirst 12 = .ok (.iload_n 3, 1) := by decide +kernel
theorem dX8_moveOnFirst_13 : decode cX8_moveOnFirst 13 = .ok (.invokevirtual 228, 3) := by decide +kernel
theorem dX8_moveOnFirst_16 : decode cX8_moveOnFirst 16 = .ok (.iconst 1, 1) := by decide +kernel
theorem dX8_moveOnFirst_17 : decode cX8_moveOnFirst 17 = .ok (.invokevirtual 203, 3) := by decide +kernel
theorem dX8_moveOnFirst_20 : decode cX8_moveOnFirst 20 = .ok (.iinc 3 1, 3) := by decide +kernel
theorem dX8_moveOnFirst_23 : decode cX8_moveOnFirst 23 = .ok (.goto (-21), 3) := by decide +kernel
theorem dX8_moveOnFirst_26 : decode cX8_moveOnFirst 26 = .ok (.return_, 1) := by decide +kernel
theorem dX8_keeper_0 : decode cX8_keeper 0 = .ok (.aload_n 0, 1) := by decide +kernel
theorem dX8_keeper_1 : decode cX8_keeper 1 = .ok (.getfield 14, 3) := by decide +kernel
theorem dX8_keeper_4 : decode cX8_keeper 4 = .ok (.iload_n 1, 1) := by decide +kernel
theorem dX8_keeper_5 : decode cX8_keeper 5 = .ok (.invokevirtual 79, 3) := by decide +kernel
theorem dX8_keeper_8 : decode cX8_keeper 8 = .ok (.ifCond .ne 5, 3) := by decide +kernel
theorem dX8_keeper_11 : decode cX8_keeper 11 = .ok (.iconst (-1), 1) := by decide +kernel
theorem dX8_keeper_12 : decode cX8_keeper 12 = .ok (.ireturn, 1) := by decide +kernel
theorem dX8_keeper_13 : decode cX8_keeper 13 = .ok (.iconst 0, 1) := by decide +kernel
theorem dX8_keeper_14 : decode cX8_keeper 14 = .ok (.istore_n 2, 1) := by decide +kernel
theorem dX8_keeper_15 : decode cX8_keeper 15 = .ok (.iconst (-1), 1) := by decide +kernel
theorem dX8_keeper_16 : decode cX8_keeper 16 = .ok (.istore_n 3, 1) := by decide +kernel
theorem dX8_keeper_17 : decode cX8_keeper 17 = .ok (.iconst 0, 1) := by decide +kernel
theorem dX8_keeper_18 : decode cX8_keeper 18 = .ok (.istore 4, 2) := by decide +kernel
theorem dX8_keeper_20 : decode cX8_keeper 20 = .ok (.iconst 0, 1) := by decide +kernel
theorem dX8_keeper_21 : decode cX8_keeper 21 = .ok (.istore 5, 2) := by decide +kernel
theorem dX8_keeper_23 : decode cX8_keeper 23 = .ok (.iload 5, 2) := by decide +kernel
theorem dX8_keeper_25 : decode cX8_keeper 25 = .ok (.iconst 4, 1) := by decide +kernel
theorem dX8_keeper_26 : decode cX8_keeper 26 = .ok (.if_icmp .ge 64, 3) := by decide +kernel
theorem dX8_keeper_29 : decode cX8_keeper 29 = .ok (.aload_n 0, 1) := by decide +kernel
theorem dX8_keeper_30 : decode cX8_keeper 30 = .ok (.iload_n 1, 1) := by decide +kernel
theorem dX8_keeper_31 : decode cX8_keeper 31 = .ok (.iload 5, 2) := by decide +kernel
theorem dX8_keeper_33 : decode cX8_keeper 33 = .ok (.invokevirtual 279, 3) := by decide +kernel
theorem dX8_keeper_36 : decode cX8_keeper 36 = .ok (.aload_n 0, 1) := by decide +kernel
theorem dX8_keeper_37 : decode cX8_keeper 37 = .ok (.getfield 57, 3) := by decide +kernel
theorem dX8_keeper_40 : decode cX8_keeper 40 = .ok (.invokevirtual 285, 3) := by decide +kernel
theorem dX8_keeper_43 : decode cX8_keeper 43 = .ok (.istore 6, 2) := by decide +kernel
theorem dX8_keeper_45 : decode cX8_keeper 45 = .ok (.iload 6, 2) := by decide +kernel
theorem dX8_keeper_47 : decode cX8_keeper 47 = .ok (.iload_n 3, 1) := by decide +kernel
theorem dX8_keeper_48 : decode cX8_keeper 48 = .ok (.if_icmp .gt 21, 3) := by decide +kernel
theorem dX8_keeper_51 : decode cX8_keeper 51 = .ok (.iload 6, 2) := by decide +kernel
theorem dX8_keeper_53 : decode cX8_keeper 53 = .ok (.iload_n 3, 1) := by decide +kernel
theorem dX8_keeper_54 : decode cX8_keeper 54 = .ok (.if_icmp .ne 30, 3) := by decide +kernel
theorem dX8_keeper_57 : decode cX8_keeper 57 = .ok (.aload_n 0, 1) := by decide +kernel
theorem dX8_keeper_58 : decode cX8_keeper 58 = .ok (.getfield 57, 3) := by decide +kernel
theorem dX8_keeper_61 : decode cX8_keeper 61 = .ok (.getfield 282, 3) := by decide +kernel
theorem dX8_keeper_64 : decode cX8_keeper 64 = .ok (.iload 4, 2) := by decide +kernel
theorem dX8_keeper_66 : decode cX8_keeper 66 = .ok (.if_icmp .ge 18, 3) := by decide +kernel
theorem dX8_keeper_69 : decode cX8_keeper 69 = .ok (.iload 5, 2) := by decide +kernel
theorem dX8_keeper_71 : decode cX8_keeper 71 = .ok (.istore_n 2, 1) := by decide +kernel
theorem dX8_keeper_72 : decode cX8_keeper 72 = .ok (.iload 6, 2) := by decide +kernel
theorem dX8_keeper_74 : decode cX8_keeper 74 = .ok (.istore_n 3, 1) := by decide +kernel
theorem dX8_keeper_75 : decode cX8_keeper 75 = .ok (.aload_n 0, 1) := by decide +kernel
theorem dX8_keeper_76 : decode cX8_keeper 76 = .ok (.getfield 57, 3) := by decide +kernel
theorem dX8_keeper_79 : decode cX8_keeper 79 = .ok (.getfield 282, 3) := by decide +kernel
theorem dX8_keeper_82 : decode cX8_keeper 82 = .ok (.istore 4, 2) := by decide +kernel
theorem dX8_keeper_84 : decode cX8_keeper 84 = .ok (.iinc 5 1, 3) := by decide +kernel
theorem dX8_keeper_87 : decode cX8_keeper 87 = .ok (.goto (-64), 3) := by decide +kernel
theorem dX8_keeper_90 : decode cX8_keeper 90 = .ok (.iload_n 2, 1) := by decide +kernel
theorem dX8_keeper_91 : decode cX8_keeper 91 = .ok (.ireturn, 1) := by decide +kernel
theorem dX8_day_0 : decode cX8_day 0 = .ok (.iload_n 1, 1) := by decide +kernel
theorem dX8_day_1 : decode cX8_day 1 = .ok (.invokestatic 305, 3) := by decide +kernel
theorem dX8_day_4 : decode cX8_day 4 = .ok (.ifCond .eq 22, 3) := by decide +kernel
theorem dX8_day_7 : decode cX8_day 7 = .ok (.iload_n 2, 1) := by decide +kernel
theorem dX8_day_8 : decode cX8_day 8 = .ok (.invokestatic 305, 3) := by decide +kernel
theorem dX8_day_11 : decode cX8_day 11 = .ok (.ifCond .eq 15, 3) := by decide +kernel
theorem dX8_day_14 : decode cX8_day 14 = .ok (.aload_n 0, 1) := by decide +kernel
theorem dX8_day_15 : decode cX8_day 15 = .ok (.getfield 14, 3) := by decide +kernel
theorem dX8_day_18 : decode cX8_day 18 = .ok (.iload_n 1, 1) := by decide +kernel
theorem dX8_day_19 : decode cX8_day 19 = .ok (.iload_n 2, 1) := by decide +kernel
theorem dX8_day_20 : decode cX8_day 20 = .ok (.invokevirtual 308, 3) := by decide +kernel
theorem dX8_day_23 : decode cX8_day 23 = .ok (.goto 4, 3) := by decide +kernel
theorem dX8_day_26 : decode cX8_day 26 = .ok (.iconst (-1), 1) := by decide +kernel
theorem dX8_day_27 : decode cX8_day 27 = .ok (.ireturn, 1) := by decide +kernel
theorem dX8_isTraffic_0 : decode cX8_isTraffic 0 = .ok (.iload_n 0, 1) := by decide +kernel
theorem dX8_isTraffic_1 : decode cX8_isTraffic 1 = .ok (.ifCond .lt 12, 3) := by decide +kernel
theorem dX8_isTraffic_4 : decode cX8_isTraffic 4 = .ok (.iload_n 0, 1) := by decide +kernel
theorem dX8_isTraffic_5 : decode cX8_isTraffic 5 = .ok (.iconst 4, 1) := by decide +kernel
theorem dX8_isTraffic_6 : decode cX8_isTraffic 6 = .ok (.if_icmp .gt 7, 3) := by decide +kernel
theorem dX8_isTraffic_9 : decode cX8_isTraffic 9 = .ok (.iconst 1, 1) := by decide +kernel
theorem dX8_isTraffic_10 : decode cX8_isTraffic 10 = .ok (.goto 4, 3) := by decide +kernel
theorem dX8_isTraffic_13 : decode cX8_isTraffic 13 = .ok (.iconst 0, 1) := by decide +kernel
theorem dX8_isTraffic_14 : decode cX8_isTraffic 14 = .ok (.ireturn, 1) := by decide +kernel
theorem dX8_dry_0 : decode cX8_dry 0 = .ok (.iload_n 1, 1) := by decide +kernel
theorem dX8_dry_1 : decode cX8_dry 1 = .ok (.invokestatic 305, 3) := by decide +kernel
theorem dX8_dry_4 : decode cX8_dry 4 = .ok (.ifCond .eq 19, 3) := by decide +kernel
theorem dX8_dry_7 : decode cX8_dry 7 = .ok (.iload_n 2, 1) := by decide +kernel
theorem dX8_dry_8 : decode cX8_dry 8 = .ok (.invokestatic 305, 3) := by decide +kernel
theorem dX8_dry_11 : decode cX8_dry 11 = .ok (.ifCond .eq 12, 3) := by decide +kernel
theorem dX8_dry_14 : decode cX8_dry 14 = .ok (.iload_n 3, 1) := by decide +kernel
theorem dX8_dry_15 : decode cX8_dry 15 = .ok (.ifCond .lt 8, 3) := by decide +kernel
theorem dX8_dry_18 : decode cX8_dry 18 = .ok (.iload_n 3, 1) := by decide +kernel
theorem dX8_dry_19 : decode cX8_dry 19 = .ok (.iconst 1, 1) := by decide +kernel
theorem dX8_dry_20 : decode cX8_dry 20 = .ok (.if_icmp .le 5, 3) := by decide +kernel
theorem dX8_dry_23 : decode cX8_dry 23 = .ok (.iconst (-1), 1) := by decide +kernel
theorem dX8_dry_24 : decode cX8_dry 24 = .ok (.ireturn, 1) := by decide +kernel
theorem dX8_dry_25 : decode cX8_dry 25 = .ok (.aload_n 0, 1) := by decide +kernel
theorem dX8_dry_26 : decode cX8_dry 26 = .ok (.getfield 38, 3) := by decide +kernel
theorem dX8_dry_29 : decode cX8_dry 29 = .ok (.aload_n 0, 1) := by decide +kernel
theorem dX8_dry_30 : decode cX8_dry 30 = .ok (.getfield 14, 3) := by decide +kernel
theorem dX8_dry_33 : decode cX8_dry 33 = .ok (.invokevirtual 210, 3) := by decide +kernel
theorem dX8_dry_36 : decode cX8_dry 36 = .ok (.iconst 0, 1) := by decide +kernel
theorem dX8_dry_37 : decode cX8_dry 37 = .ok (.istore 4, 2) := by decide +kernel
theorem dX8_dry_39 : decode cX8_dry 39 = .ok (.iload 4, 2) := by decide +kernel
theorem dX8_dry_41 : decode cX8_dry 41 = .ok (.bipush 40, 2) := by decide +kernel
theorem dX8_dry_43 : decode cX8_dry 43 = .ok (.if_icmp .gt 49, 3) := by decide +kernel
theorem dX8_dry_46 : decode cX8_dry 46 = .ok (.aload_n 0, 1) := by decide +kernel
theorem dX8_dry_47 : decode cX8_dry 47 = .ok (.getfield 38, 3) := by decide +kernel
theorem dX8_dry_50 : decode cX8_dry 50 = .ok (.iload_n 1, 1) := by decide +kernel
theorem dX8_dry_51 : decode cX8_dry 51 = .ok (.iload_n 2, 1) := by decide +kernel
theorem dX8_dry_52 : decode cX8_dry 52 = .ok (.invokevirtual 308, 3) := by decide +kernel
theorem dX8_dry_55 : decode cX8_dry 55 = .ok (.pop, 1) := by decide +kernel
theorem dX8_dry_56 : decode cX8_dry 56 = .ok (.aload_n 0, 1) := by decide +kernel
theorem dX8_dry_57 : decode cX8_dry 57 = .ok (.getfield 38, 3) := by decide +kernel
theorem dX8_dry_60 : decode cX8_dry 60 = .ok (.getfield 311, 3) := by decide +kernel
theorem dX8_dry_63 : decode cX8_dry 63 = .ok (.ifCond .eq 23, 3) := by decide +kernel
theorem dX8_dry_66 : decode cX8_dry 66 = .ok (.iload_n 3, 1) := by decide +kernel
theorem dX8_dry_67 : decode cX8_dry 67 = .ok (.ifCond .ne 8, 3) := by decide +kernel
theorem dX8_dry_70 : decode cX8_dry 70 = .ok (.iload 4, 2) := by decide +kernel
theorem dX8_dry_72 : decode cX8_dry 72 = .ok (.goto 13, 3) := by decide +kernel
theorem dX8_dry_75 : decode cX8_dry 75 = .ok (.aload_n 0, 1) := by decide +kernel
theorem dX8_dry_76 : decode cX8_dry 76 = .ok (.getfield 38, 3) := by decide +kernel
theorem dX8_dry_79 : decode cX8_dry 79 = .ok (.getfield 216, 3) := by decide +kernel
theorem dX8_dry_82 : decode cX8_dry 82 = .ok (.getfield 315, 3) := by decide +kernel
theorem dX8_dry_85 : decode cX8_dry 85 = .ok (.ireturn, 1) := by decide +kernel
theorem dX8_dry_86 : decode cX8_dry 86 = .ok (.iinc 4 1, 3) := by decide +kernel
theorem dX8_dry_89 : decode cX8_dry 89 = .ok (.goto (-50), 3) := by decide +kernel
theorem dX8_dry_92 : decode cX8_dry 92 = .ok (.bipush (-2), 2) := by decide +kernel
theorem dX8_dry_94 : decode cX8_dry 94 = .ok (.ireturn, 1) := by decide +kernel
theorem dX8_pond_0 : decode cX8_pond 0 = .ok (.iload_n 1, 1) := by decide +kernel
theorem dX8_pond_1 : decode cX8_pond 1 = .ok (.invokestatic 305, 3) := by decide +kernel
theorem dX8_pond_4 : decode cX8_pond 4 = .ok (.ifCond .eq 21, 3) := by decide +kernel
theorem dX8_pond_7 : decode cX8_pond 7 = .ok (.iload_n 2, 1) := by decide +kernel
theorem dX8_pond_8 : decode cX8_pond 8 = .ok (.invokestatic 305, 3) := by decide +kernel
theorem dX8_pond_11 : decode cX8_pond 11 = .ok (.ifCond .eq 14, 3) := by decide +kernel
theorem dX8_pond_14 : decode cX8_pond 14 = .ok (.iload_n 3, 1) := by decide +kernel
theorem dX8_pond_15 : decode cX8_pond 15 = .ok (.iconst 1, 1) := by decide +kernel
theorem dX8_pond_16 : decode cX8_pond 16 = .ok (.if_icmp .lt 9, 3) := by decide +kernel
theorem dX8_pond_19 : decode cX8_pond 19 = .ok (.iload_n 3, 1) := by decide +kernel
theorem dX8_pond_20 : decode cX8_pond 20 = .ok (.bipush 20, 2) := by decide +kernel
theorem dX8_pond_22 : decode cX8_pond 22 = .ok (.if_icmp .le 5, 3) := by decide +kernel
theorem dX8_pond_25 : decode cX8_pond 25 = .ok (.iconst (-1), 1) := by decide +kernel
theorem dX8_pond_26 : decode cX8_pond 26 = .ok (.ireturn, 1) := by decide +kernel
theorem dX8_pond_27 : decode cX8_pond 27 = .ok (.aload_n 0, 1) := by decide +kernel
theorem dX8_pond_28 : decode cX8_pond 28 = .ok (.getfield 38, 3) := by decide +kernel
theorem dX8_pond_31 : decode cX8_pond 31 = .ok (.aload_n 0, 1) := by decide +kernel
theorem dX8_pond_32 : decode cX8_pond 32 = .ok (.getfield 14, 3) := by decide +kernel
theorem dX8_pond_35 : decode cX8_pond 35 = .ok (.invokevirtual 210, 3) := by decide +kernel
theorem dX8_pond_38 : decode cX8_pond 38 = .ok (.aload_n 0, 1) := by decide +kernel
theorem dX8_pond_39 : decode cX8_pond 39 = .ok (.iload_n 1, 1) := by decide +kernel
theorem dX8_pond_40 : decode cX8_pond 40 = .ok (.iload_n 2, 1) := by decide +kernel
theorem dX8_pond_41 : decode cX8_pond 41 = .ok (.iload_n 3, 1) := by decide +kernel
theorem dX8_pond_42 : decode cX8_pond 42 = .ok (.invokevirtual 318, 3) := by decide +kernel
theorem dX8_pond_45 : decode cX8_pond 45 = .ok (.istore 4, 2) := by decide +kernel
theorem dX8_pond_47 : decode cX8_pond 47 = .ok (.bipush (-2), 2) := by decide +kernel
theorem dX8_pond_49 : decode cX8_pond 49 = .ok (.istore 5, 2) := by decide +kernel
theorem dX8_pond_51 : decode cX8_pond 51 = .ok (.iconst 0, 1) := by decide +kernel
theorem dX8_pond_52 : decode cX8_pond 52 = .ok (.istore 6, 2) := by decide +kernel
theorem dX8_pond_54 : decode cX8_pond 54 = .ok (.iload 6, 2) := by decide +kernel
theorem dX8_pond_56 : decode cX8_pond 56 = .ok (.aload_n 0, 1) := by decide +kernel
theorem dX8_pond_57 : decode cX8_pond 57 = .ok (.getfield 14, 3) := by decide +kernel
theorem dX8_pond_60 : decode cX8_pond 60 = .ok (.getfield 72, 3) := by decide +kernel
theorem dX8_pond_63 : decode cX8_pond 63 = .ok (.if_icmp .ge 84, 3) := by decide +kernel
theorem dX8_pond_66 : decode cX8_pond 66 = .ok (.aload_n 0, 1) := by decide +kernel
theorem dX8_pond_67 : decode cX8_pond 67 = .ok (.getfield 14, 3) := by decide +kernel
theorem dX8_pond_70 : decode cX8_pond 70 = .ok (.getfield 98, 3) := by decide +kernel
theorem dX8_pond_73 : decode cX8_pond 73 = .ok (.iload 6, 2) := by decide +kernel
theorem dX8_pond_75 : decode cX8_pond 75 = .ok (.iaload, 1) := by decide +kernel
theorem dX8_pond_76 : decode cX8_pond 76 = .ok (.iconst 3, 1) := by decide +kernel
theorem dX8_pond_77 : decode cX8_pond 77 = .ok (.if_icmp .ge 64, 3) := by decide +kernel
theorem dX8_pond_80 : decode cX8_pond 80 = .ok (.aload_n 0, 1) := by decide +kernel
theorem dX8_pond_81 : decode cX8_pond 81 = .ok (.getfield 14, 3) := by decide +kernel
theorem dX8_pond_84 : decode cX8_pond 84 = .ok (.iload 6, 2) := by decide +kernel
theorem dX8_pond_86 : decode cX8_pond 86 = .ok (.invokevirtual 87, 3) := by decide +kernel
theorem dX8_pond_89 : decode cX8_pond 89 = .ok (.ifCond .eq 52, 3) := by decide +kernel
theorem dX8_pond_92 : decode cX8_pond 92 = .ok (.aload_n 0, 1) := by decide +kernel
theorem dX8_pond_93 : decode cX8_pond 93 = .ok (.getfield 38, 3) := by decide +kernel
theorem dX8_pond_96 : decode cX8_pond 96 = .ok (.aload_n 0, 1) := by decide +kernel
theorem dX8_pond_97 : decode cX8_pond 97 = .ok (.getfield 14, 3) := by decide +kernel
theorem dX8_pond_100 : decode cX8_pond 100 = .ok (.invokevirtual 210, 3) := by decide +kernel
theorem dX8_pond_103 : decode cX8_pond 103 = .ok (.aload_n 0, 1) := by decide +kernel
theorem dX8_pond_104 : decode cX8_pond 104 = .ok (.getfield 38, 3) := by decide +kernel
theorem dX8_pond_107 : decode cX8_pond 107 = .ok (.getfield 98, 3) := by decide +kernel
theorem dX8_pond_110 : decode cX8_pond 110 = .ok (.iload 6, 2) := by decide +kernel
theorem dX8_pond_112 : decode cX8_pond 112 = .ok (.dup2, 1) := by decide +kernel
theorem dX8_pond_113 : decode cX8_pond 113 = .ok (.iaload, 1) := by decide +kernel
theorem dX8_pond_114 : decode cX8_pond 114 = .ok (.iconst 1, 1) := by decide +kernel
theorem dX8_pond_115 : decode cX8_pond 115 = .ok (.iadd, 1) := by decide +kernel
theorem dX8_pond_116 : decode cX8_pond 116 = .ok (.iastore, 1) := by decide +kernel
theorem dX8_pond_117 : decode cX8_pond 117 = .ok (.aload_n 0, 1) := by decide +kernel
theorem dX8_pond_118 : decode cX8_pond 118 = .ok (.iload_n 1, 1) := by decide +kernel
theorem dX8_pond_119 : decode cX8_pond 119 = .ok (.iload_n 2, 1) := by decide +kernel
theorem dX8_pond_120 : decode cX8_pond 120 = .ok (.iload_n 3, 1) := by decide +kernel
theorem dX8_pond_121 : decode cX8_pond 121 = .ok (.invokevirtual 318, 3) := by decide +kernel
theorem dX8_pond_124 : decode cX8_pond 124 = .ok (.istore 7, 2) := by decide +kernel
theorem dX8_pond_126 : decode cX8_pond 126 = .ok (.iload 7, 2) := by decide +kernel
theorem dX8_pond_128 : decode cX8_pond 128 = .ok (.iload 4, 2) := by decide +kernel
theorem dX8_pond_130 : decode cX8_pond 130 = .ok (.if_icmp .le 11, 3) := by decide +kernel
theorem dX8_pond_133 : decode cX8_pond 133 = .ok (.iload 7, 2) := by decide +kernel
theorem dX8_pond_135 : decode cX8_pond 135 = .ok (.istore 4, 2) := by decide +kernel
theorem dX8_pond_137 : decode cX8_pond 137 = .ok (.iload 6, 2) := by decide +kernel
theorem dX8_pond_139 : decode cX8_pond 139 = .ok (.istore 5, 2) := by decide +kernel
theorem dX8_pond_141 : decode cX8_pond 141 = .ok (.iinc 6 1, 3) := by decide +kernel
theorem dX8_pond_144 : decode cX8_pond 144 = .ok (.goto (-90), 3) := by decide +kernel
theorem dX8_pond_147 : decode cX8_pond 147 = .ok (.iload 5, 2) := by decide +kernel
theorem dX8_pond_149 : decode cX8_pond 149 = .ok (.ireturn, 1) := by decide +kernel
theorem dX8_summitInThought_0 : decode cX8_summitInThought 0 = .ok (.iconst 0, 1) := by decide +kernel
theorem dX8_summitInThought_1 : decode cX8_summitInThought 1 = .ok (.istore 4, 2) := by decide +kernel
theorem dX8_summitInThought_3 : decode cX8_summitInThought 3 = .ok (.iload 4, 2) := by decide +kernel
theorem dX8_summitInThought_5 : decode cX8_summitInThought 5 = .ok (.iload_n 3, 1) := by decide +kernel
theorem dX8_summitInThought_6 : decode cX8_summitInThought 6 = .ok (.if_icmp .ge 19, 3) := by decide +kernel
theorem dX8_summitInThought_9 : decode cX8_summitInThought 9 = .ok (.aload_n 0, 1) := by decide +kernel
theorem dX8_summitInThought_10 : decode cX8_summitInThought 10 = .ok (.getfield 38, 3) := by decide +kernel
theorem dX8_summitInThought_13 : decode cX8_summitInThought 13 = .ok (.iload_n 1, 1) := by decide +kernel
theorem dX8_summitInThought_14 : decode cX8_summitInThought 14 = .ok (.iload_n 2, 1) := by decide +kernel
theorem dX8_summitInThought_15 : decode cX8_summitInThought 15 = .ok (.invokevirtual 308, 3) := by decide +kernel
theorem dX8_summitInThought_18 : decode cX8_summitInThought 18 = .ok (.pop, 1) := by decide +kernel
theorem dX8_summitInThought_19 : decode cX8_summitInThought 19 = .ok (.iinc 4 1, 3) := by decide +kernel
theorem dX8_summitInThought_22 : decode cX8_summitInThought 22 = .ok (.goto (-19), 3) := by decide +kernel
theorem dX8_summitInThought_25 : decode cX8_summitInThought 25 = .ok (.aload_n 0, 1) := by decide +kernel
theorem dX8_summitInThought_26 : decode cX8_summitInThought 26 = .ok (.getfield 38, 3) := by decide +kernel
theorem dX8_summitInThought_29 : decode cX8_summitInThought 29 = .ok (.invokevirtual 213, 3) := by decide +kernel
theorem dX8_summitInThought_32 : decode cX8_summitInThought 32 = .ok (.ireturn, 1) := by decide +kernel
theorem dX8_water_0 : decode cX8_water 0 = .ok (.aload_n 0, 1) := by decide +kernel
theorem dX8_water_1 : decode cX8_water 1 = .ok (.getfield 14, 3) := by decide +kernel
theorem dX8_water_4 : decode cX8_water 4 = .ok (.invokevirtual 322, 3) := by decide +kernel
theorem dX8_water_7 : decode cX8_water 7 = .ok (.ireturn, 1) := by decide +kernel
theorem dX8_levels_0 : decode cX8_levels 0 = .ok (.iload_n 1, 1) := by decide +kernel
theorem dX8_levels_1 : decode cX8_levels 1 = .ok (.iconst (-1), 1) := by decide +kernel
theorem dX8_levels_2 : decode cX8_levels 2 = .ok (.if_icmp .ge 5, 3) := by decide +kernel
theorem dX8_levels_5 : decode cX8_levels 5 = .ok (.iconst (-1), 1) := by decide +kernel
theorem dX8_levels_6 : decode cX8_levels 6 = .ok (.ireturn, 1) := by decide +kernel
theorem dX8_levels_7 : decode cX8_levels 7 = .ok (.iconst 0, 1) := by decide +kernel
theorem dX8_levels_8 : decode cX8_levels 8 = .ok (.istore_n 2, 1) := by decide +kernel
theorem dX8_levels_9 : decode cX8_levels 9 = .ok (.aload_n 0, 1) := by decide +kernel
theorem dX8_levels_10 : decode cX8_levels 10 = .ok (.getfield 14, 3) := by decide +kernel
theorem dX8_levels_13 : decode cX8_levels 13 = .ok (.iconst (-1), 1) := by decide +kernel
theorem dX8_levels_14 : decode cX8_levels 14 = .ok (.invokevirtual 325, 3) := by decide +kernel
theorem dX8_levels_17 : decode cX8_levels 17 = .ok (.istore_n 3, 1) := by decide +kernel
theorem dX8_levels_18 : decode cX8_levels 18 = .ok (.iload_n 3, 1) := by decide +kernel
theorem dX8_levels_19 : decode cX8_levels 19 = .ok (.ifCond .lt 31, 3) := by decide +kernel
theorem dX8_levels_22 : decode cX8_levels 22 = .ok (.iload_n 2, 1) := by decide +kernel
theorem dX8_levels_23 : decode cX8_levels 23 = .ok (.bipush 6, 2) := by decide +kernel
theorem dX8_levels_25 : decode cX8_levels 25 = .ok (.if_icmp .gt 25, 3) := by decide +kernel
theorem dX8_levels_28 : decode cX8_levels 28 = .ok (.iload_n 2, 1) := by decide +kernel
theorem dX8_levels_29 : decode cX8_levels 29 = .ok (.iload_n 1, 1) := by decide +kernel
theorem dX8_levels_30 : decode cX8_levels 30 = .ok (.if_icmp .ne 5, 3) := by decide +kernel
theorem dX8_levels_33 : decode cX8_levels 33 = .ok (.iload_n 3, 1) := by decide +kernel
theorem dX8_levels_34 : decode cX8_levels 34 = .ok (.ireturn, 1) := by decide +kernel
theorem dX8_levels_35 : decode cX8_levels 35 = .ok (.iinc 2 1, 3) := by decide +kernel
theorem dX8_levels_38 : decode cX8_levels 38 = .ok (.aload_n 0, 1) := by decide +kernel
theorem dX8_levels_39 : decode cX8_levels 39 = .ok (.getfield 14, 3) := by decide +kernel
theorem dX8_levels_42 : decode cX8_levels 42 = .ok (.iload_n 3, 1) := by decide +kernel
theorem dX8_levels_43 : decode cX8_levels 43 = .ok (.invokevirtual 325, 3) := by decide +kernel
theorem dX8_levels_46 : decode cX8_levels 46 = .ok (.istore_n 3, 1) := by decide +kernel
theorem dX8_levels_47 : decode cX8_levels 47 = .ok (.goto (-29), 3) := by decide +kernel
theorem dX8_levels_50 : decode cX8_levels 50 = .ok (.iload_n 1, 1) := by decide +kernel
theorem dX8_levels_51 : decode cX8_levels 51 = .ok (.iconst (-1), 1) := by decide +kernel
theorem dX8_levels_52 : decode cX8_levels 52 = .ok (.if_icmp .ne 7, 3) := by decide +kernel
theorem dX8_levels_55 : decode cX8_levels 55 = .ok (.iload_n 2, 1) := by decide +kernel
theorem dX8_levels_56 : decode cX8_levels 56 = .ok (.goto 5, 3) := by decide +kernel
theorem dX8_levels_59 : decode cX8_levels 59 = .ok (.bipush (-2), 2) := by decide +kernel
theorem dX8_levels_61 : decode cX8_levels 61 = .ok (.ireturn, 1) := by decide +kernel
theorem dX8_tally_0 : decode cX8_tally 0 = .ok (.iload_n 2, 1) := by decide +kernel
theorem dX8_tally_1 : decode cX8_tally 1 = .ok (.ifCond .lt 8, 3) := by decide +kernel
theorem dX8_tally_4 : decode cX8_tally 4 = .ok (.iload_n 2, 1) := by decide +kernel
theorem dX8_tally_5 : decode cX8_tally 5 = .ok (.iconst 2, 1) := by decide +kernel
theorem dX8_tally_6 : decode cX8_tally 6 = .ok (.if_icmp .le 6, 3) := by decide +kernel
theorem dX8_tally_9 : decode cX8_tally 9 = .ok (.ldc 186, 2) := by decide +kernel
theorem dX8_tally_11 : decode cX8_tally 11 = .ok (.ireturn, 1) := by decide +kernel
theorem dX8_tally_12 : decode cX8_tally 12 = .ok (.iload_n 2, 1) := by decide +kernel
theorem dX8_tally_13 : decode cX8_tally 13 = .ok (.iconst 2, 1) := by decide +kernel
theorem dX8_tally_14 : decode cX8_tally 14 = .ok (.if_icmp .ne 15, 3) := by decide +kernel
theorem dX8_tally_17 : decode cX8_tally 17 = .ok (.aload_n 0, 1) := by decide +kernel
theorem dX8_tally_18 : decode cX8_tally 18 = .ok (.getfield 14, 3) := by decide +kernel
theorem dX8_tally_21 : decode cX8_tally 21 = .ok (.getfield 328, 3) := by decide +kernel
theorem dX8_tally_24 : decode cX8_tally 24 = .ok (.iload_n 1, 1) := by decide +kernel
theorem dX8_tally_25 : decode cX8_tally 25 = .ok (.invokevirtual 332, 3) := by decide +kernel
theorem dX8_tally_28 : decode cX8_tally 28 = .ok (.ireturn, 1) := by decide +kernel
theorem dX8_tally_29 : decode cX8_tally 29 = .ok (.iload_n 1, 1) := by decide +kernel
theorem dX8_tally_30 : decode cX8_tally 30 = .ok (.iconst (-1), 1) := by decide +kernel
theorem dX8_tally_31 : decode cX8_tally 31 = .ok (.if_icmp .ne 16, 3) := by decide +kernel
theorem dX8_tally_34 : decode cX8_tally 34 = .ok (.aload_n 0, 1) := by decide +kernel
theorem dX8_tally_35 : decode cX8_tally 35 = .ok (.getfield 14, 3) := by decide +kernel
theorem dX8_tally_38 : decode cX8_tally 38 = .ok (.getfield 328, 3) := by decide +kernel
theorem dX8_tally_41 : decode cX8_tally 41 = .ok (.invokevirtual 337, 3) := by decide +kernel
theorem dX8_tally_44 : decode cX8_tally 44 = .ok (.goto 24, 3) := by decide +kernel
theorem dX8_tally_47 : decode cX8_tally 47 = .ok (.aload_n 0, 1) := by decide +kernel
theorem dX8_tally_48 : decode cX8_tally 48 = .ok (.getfield 14, 3) := by decide +kernel
theorem dX8_tally_51 : decode cX8_tally 51 = .ok (.getfield 328, 3) := by decide +kernel
theorem dX8_tally_54 : decode cX8_tally 54 = .ok (.iload_n 1, 1) := by decide +kernel
theorem dX8_tally_55 : decode cX8_tally 55 = .ok (.iload_n 2, 1) := by decide +kernel
theorem dX8_tally_56 : decode cX8_tally 56 = .ok (.iconst 1, 1) := by decide +kernel
theorem dX8_tally_57 : decode cX8_tally 57 = .ok (.if_icmp .ne 7, 3) := by decide +kernel
theorem dX8_tally_60 : decode cX8_tally 60 = .ok (.iconst 1, 1) := by decide +kernel
theorem dX8_tally_61 : decode cX8_tally 61 = .ok (.goto 4, 3) := by decide +kernel
theorem dX8_tally_64 : decode cX8_tally 64 = .ok (.iconst 0, 1) := by decide +kernel
theorem dX8_tally_65 : decode cX8_tally 65 = .ok (.invokevirtual 340, 3) := by decide +kernel
theorem dX8_tally_68 : decode cX8_tally 68 = .ok (.ireturn, 1) := by decide +kernel
theorem dX8_pays_0 : decode cX8_pays 0 = .ok (.lload_n 1, 1) := by decide +kernel
theorem dX8_pays_1 : decode cX8_pays 1 = .ok (.lload_n 3, 1) := by decide +kernel
theorem dX8_pays_2 : decode cX8_pays 2 = .ok (.lmul, 1) := by decide +kernel
theorem dX8_pays_3 : decode cX8_pays 3 = .ok (.lstore 5, 2) := by decide +kernel
theorem dX8_pays_5 : decode cX8_pays 5 = .ok (.lload_n 1, 1) := by decide +kernel
theorem dX8_pays_6 : decode cX8_pays 6 = .ok (.ldc2_w 343, 3) := by decide +kernel
theorem dX8_pays_9 : decode cX8_pays 9 = .ok (.lcmp, 1) := by decide +kernel
theorem dX8_pays_10 : decode cX8_pays 10 = .ok (.ifCond .ne 19, 3) := by decide +kernel
theorem dX8_pays_13 : decode cX8_pays 13 = .ok (.lload_n 3, 1) := by decide +kernel
theorem dX8_pays_14 : decode cX8_pays 14 = .ok (.ldc2_w 345, 3) := by decide +kernel
theorem dX8_pays_17 : decode cX8_pays 17 = .ok (.lcmp, 1) := by decide +kernel
theorem dX8_pays_18 : decode cX8_pays 18 = .ok (.ifCond .ne 7, 3) := by decide +kernel
theorem dX8_pays_21 : decode cX8_pays 21 = .ok (.iconst 1, 1) := by decide +kernel
theorem dX8_pays_22 : decode cX8_pays 22 = .ok (.goto 27, 3) := by decide +kernel
theorem dX8_pays_25 : decode cX8_pays 25 = .ok (.iconst 0, 1) := by decide +kernel
theorem dX8_pays_26 : decode cX8_pays 26 = .ok (.goto 23, 3) := by decide +kernel
theorem dX8_pays_29 : decode cX8_pays 29 = .ok (.lload_n 1, 1) := by decide +kernel
theorem dX8_pays_30 : decode cX8_pays 30 = .ok (.lconst 0, 1) := by decide +kernel
theorem dX8_pays_31 : decode cX8_pays 31 = .ok (.lcmp, 1) := by decide +kernel
theorem dX8_pays_32 : decode cX8_pays 32 = .ok (.ifCond .eq 16, 3) := by decide +kernel
theorem dX8_pays_35 : decode cX8_pays 35 = .ok (.lload 5, 2) := by decide +kernel
theorem dX8_pays_37 : decode cX8_pays 37 = .ok (.lload_n 1, 1) := by decide +kernel
theorem dX8_pays_38 : decode cX8_pays 38 = .ok (.ldiv, 1) := by decide +kernel
theorem dX8_pays_39 : decode cX8_pays 39 = .ok (.lload_n 3, 1) := by decide +kernel
theorem dX8_pays_40 : decode cX8_pays 40 = .ok (.lcmp, 1) := by decide +kernel
theorem dX8_pays_41 : decode cX8_pays 41 = .ok (.ifCond .eq 7, 3) := by decide +kernel
theorem dX8_pays_44 : decode cX8_pays 44 = .ok (.iconst 1, 1) := by decide +kernel
theorem dX8_pays_45 : decode cX8_pays 45 = .ok (.goto 4, 3) := by decide +kernel
theorem dX8_pays_48 : decode cX8_pays 48 = .ok (.iconst 0, 1) := by decide +kernel
theorem dX8_pays_49 : decode cX8_pays 49 = .ok (.istore 7, 2) := by decide +kernel
theorem dX8_pays_51 : decode cX8_pays 51 = .ok (.aload_n 0, 1) := by decide +kernel
theorem dX8_pays_52 : decode cX8_pays 52 = .ok (.getfield 347, 3) := by decide +kernel
theorem dX8_pays_55 : decode cX8_pays 55 = .ok (.lload 5, 2) := by decide +kernel
theorem dX8_pays_57 : decode cX8_pays 57 = .ok (.ladd, 1) := by decide +kernel
theorem dX8_pays_58 : decode cX8_pays 58 = .ok (.lstore 8, 2) := by decide +kernel
theorem dX8_pays_60 : decode cX8_pays 60 = .ok (.iload 7, 2) := by decide +kernel
theorem dX8_pays_62 : decode cX8_pays 62 = .ok (.ifCond .ne 21, 3) := by decide +kernel
theorem dX8_pays_65 : decode cX8_pays 65 = .ok (.aload_n 0, 1) := by decide +kernel
theorem dX8_pays_66 : decode cX8_pays 66 = .ok (.getfield 347, 3) := by decide +kernel
theorem dX8_pays_69 : decode cX8_pays 69 = .ok (.lload 8, 2) := by decide +kernel
theorem dX8_pays_71 : decode cX8_pays 71 = .ok (.lxor, 1) := by decide +kernel
theorem dX8_pays_72 : decode cX8_pays 72 = .ok (.lload 5, 2) := by decide +kernel
theorem dX8_pays_74 : decode cX8_pays 74 = .ok (.lload 8, 2) := by decide +kernel
theorem dX8_pays_76 : decode cX8_pays 76 = .ok (.lxor, 1) := by decide +kernel
theorem dX8_pays_77 : decode cX8_pays 77 = .ok (.land, 1) := by decide +kernel
theorem dX8_pays_78 : decode cX8_pays 78 = .ok (.lconst 0, 1) := by decide +kernel
theorem dX8_pays_79 : decode cX8_pays 79 = .ok (.lcmp, 1) := by decide +kernel
theorem dX8_pays_80 : decode cX8_pays 80 = .ok (.ifCond .ge 6, 3) := by decide +kernel
theorem dX8_pays_83 : decode cX8_pays 83 = .ok (.bipush (-7), 2) := by decide +kernel
theorem dX8_pays_85 : decode cX8_pays 85 = .ok (.ireturn, 1) := by decide +kernel
theorem dX8_pays_86 : decode cX8_pays 86 = .ok (.aload_n 0, 1) := by decide +kernel
theorem dX8_pays_87 : decode cX8_pays 87 = .ok (.lload 8, 2) := by decide +kernel
theorem dX8_pays_89 : decode cX8_pays 89 = .ok (.putfield 347, 3) := by decide +kernel
theorem dX8_pays_92 : decode cX8_pays 92 = .ok (.iconst 1, 1) := by decide +kernel
theorem dX8_pays_93 : decode cX8_pays 93 = .ok (.ireturn, 1) := by decide +kernel
theorem dX8_account_0 : decode cX8_account 0 = .ok (.aload_n 0, 1) := by decide +kernel
theorem dX8_account_1 : decode cX8_account 1 = .ok (.getfield 347, 3) := by decide +kernel
theorem dX8_account_4 : decode cX8_account 4 = .ok (.lreturn, 1) := by decide +kernel
theorem dX8_image_0 : decode cX8_image 0 = .ok (.aload_n 0, 1) := by decide +kernel
theorem dX8_image_1 : decode cX8_image 1 = .ok (.getfield 32, 3) := by decide +kernel
theorem dX8_image_4 : decode cX8_image 4 = .ok (.aload_n 0, 1) := by decide +kernel
theorem dX8_image_5 : decode cX8_image 5 = .ok (.getfield 14, 3) := by decide +kernel
theorem dX8_image_8 : decode cX8_image 8 = .ok (.invokevirtual 210, 3) := by decide +kernel
theorem dX8_image_11 : decode cX8_image 11 = .ok (.aload_n 0, 1) := by decide +kernel
theorem dX8_image_12 : decode cX8_image 12 = .ok (.getfield 35, 3) := by decide +kernel
theorem dX8_image_15 : decode cX8_image 15 = .ok (.aload_n 0, 1) := by decide +kernel
theorem dX8_image_16 : decode cX8_image 16 = .ok (.getfield 21, 3) := by decide +kernel
theorem dX8_image_19 : decode cX8_image 19 = .ok (.invokevirtual 140, 3) := by decide +kernel
theorem dX8_image_22 : decode cX8_image 22 = .ok (.aload_n 0, 1) := by decide +kernel
theorem dX8_image_23 : decode cX8_image 23 = .ok (.aload_n 0, 1) := by decide +kernel
theorem dX8_image_24 : decode cX8_image 24 = .ok (.getfield 347, 3) := by decide +kernel
theorem dX8_image_27 : decode cX8_image 27 = .ok (.putfield 351, 3) := by decide +kernel
theorem dX8_image_30 : decode cX8_image 30 = .ok (.aload_n 0, 1) := by decide +kernel
theorem dX8_image_31 : decode cX8_image 31 = .ok (.iconst 1, 1) := by decide +kernel
theorem dX8_image_32 : decode cX8_image 32 = .ok (.putfield 354, 3) := by decide +kernel
theorem dX8_image_35 : decode cX8_image 35 = .ok (.aload_n 0, 1) := by decide +kernel
theorem dX8_image_36 : decode cX8_image 36 = .ok (.getfield 21, 3) := by decide +kernel
theorem dX8_image_39 : decode cX8_image 39 = .ok (.getfield 76, 3) := by decide +kernel
theorem dX8_image_42 : decode cX8_image 42 = .ok (.ireturn, 1) := by decide +kernel
theorem dX8_undo_0 : decode cX8_undo 0 = .ok (.aload_n 0, 1) := by decide +kernel
theorem dX8_undo_1 : decode cX8_undo 1 = .ok (.getfield 354, 3) := by decide +kernel
theorem dX8_undo_4 : decode cX8_undo 4 = .ok (.ifCond .ne 6, 3) := by decide +kernel
theorem dX8_undo_7 : decode cX8_undo 7 = .ok (.bipush (-5), 2) := by decide +kernel
theorem dX8_undo_9 : decode cX8_undo 9 = .ok (.ireturn, 1) := by decide +kernel
theorem dX8_undo_10 : decode cX8_undo 10 = .ok (.aload_n 0, 1) := by decide +kernel
theorem dX8_undo_11 : decode cX8_undo 11 = .ok (.getfield 14, 3) := by decide +kernel
theorem dX8_undo_14 : decode cX8_undo 14 = .ok (.aload_n 0, 1) := by decide +kernel
theorem dX8_undo_15 : decode cX8_undo 15 = .ok (.getfield 32, 3) := by decide +kernel
theorem dX8_undo_18 : decode cX8_undo 18 = .ok (.invokevirtual 210, 3) := by decide +kernel
theorem dX8_undo_21 : decode cX8_undo 21 = .ok (.aload_n 0, 1) := by decide +kernel
theorem dX8_undo_22 : decode cX8_undo 22 = .ok (.getfield 21, 3) := by decide +kernel
theorem dX8_undo_25 : decode cX8_undo 25 = .ok (.aload_n 0, 1) := by decide +kernel
theorem dX8_undo_26 : decode cX8_undo 26 = .ok (.getfield 35, 3) := by decide +kernel
theorem dX8_undo_29 : decode cX8_undo 29 = .ok (.invokevirtual 140, 3) := by decide +kernel
theorem dX8_undo_32 : decode cX8_undo 32 = .ok (.aload_n 0, 1) := by decide +kernel
theorem dX8_undo_33 : decode cX8_undo 33 = .ok (.aload_n 0, 1) := by decide +kernel
theorem dX8_undo_34 : decode cX8_undo 34 = .ok (.getfield 351, 3) := by decide +kernel
theorem dX8_undo_37 : decode cX8_undo 37 = .ok (.putfield 347, 3) := by decide +kernel
theorem dX8_undo_40 : decode cX8_undo 40 = .ok (.aload_n 0, 1) := by decide +kernel
theorem dX8_undo_41 : decode cX8_undo 41 = .ok (.getfield 21, 3) := by decide +kernel
theorem dX8_undo_44 : decode cX8_undo 44 = .ok (.getfield 76, 3) := by decide +kernel
theorem dX8_undo_47 : decode cX8_undo 47 = .ok (.ireturn, 1) := by decide +kernel
theorem dX8_count_0 : decode cX8_count 0 = .ok (.iload_n 1, 1) := by decide +kernel
theorem dX8_count_1 : decode cX8_count 1 = .ok (.tableswitch 92 0 5 #[39, 47, 55, 63, 76, 84], 39) := by decide +kernel
theorem dX8_count_40 : decode cX8_count 40 = .ok (.aload_n 0, 1) := by decide +kernel
theorem dX8_count_41 : decode cX8_count 41 = .ok (.getfield 14, 3) := by decide +kernel
theorem dX8_count_44 : decode cX8_count 44 = .ok (.getfield 72, 3) := by decide +kernel
theorem dX8_count_47 : decode cX8_count 47 = .ok (.ireturn, 1) := by decide +kernel
theorem dX8_count_48 : decode cX8_count 48 = .ok (.aload_n 0, 1) := by decide +kernel
theorem dX8_count_49 : decode cX8_count 49 = .ok (.getfield 21, 3) := by decide +kernel
theorem dX8_count_52 : decode cX8_count 52 = .ok (.getfield 76, 3) := by decide +kernel
theorem dX8_count_55 : decode cX8_count 55 = .ok (.ireturn, 1) := by decide +kernel
theorem dX8_count_56 : decode cX8_count 56 = .ok (.aload_n 0, 1) := by decide +kernel
theorem dX8_count_57 : decode cX8_count 57 = .ok (.getfield 28, 3) := by decide +kernel
theorem dX8_count_60 : decode cX8_count 60 = .ok (.getfield 133, 3) := by decide +kernel
theorem dX8_count_63 : decode cX8_count 63 = .ok (.ireturn, 1) := by decide +kernel
theorem dX8_count_64 : decode cX8_count 64 = .ok (.aload_n 0, 1) := by decide +kernel
theorem dX8_count_65 : decode cX8_count 65 = .ok (.getfield 14, 3) := by decide +kernel
theorem dX8_count_68 : decode cX8_count 68 = .ok (.getfield 328, 3) := by decide +kernel
theorem dX8_count_71 : decode cX8_count 71 = .ok (.bipush 108, 2) := by decide +kernel
theorem dX8_count_73 : decode cX8_count 73 = .ok (.invokevirtual 332, 3) := by decide +kernel
theorem dX8_count_76 : decode cX8_count 76 = .ok (.ireturn, 1) := by decide +kernel
theorem dX8_count_77 : decode cX8_count 77 = .ok (.aload_n 0, 1) := by decide +kernel
theorem dX8_count_78 : decode cX8_count 78 = .ok (.getfield 14, 3) := by decide +kernel
theorem dX8_count_81 : decode cX8_count 81 = .ok (.getfield 127, 3) := by decide +kernel
theorem dX8_count_84 : decode cX8_count 84 = .ok (.ireturn, 1) := by decide +kernel
theorem dX8_count_85 : decode cX8_count 85 = .ok (.aload_n 0, 1) := by decide +kernel
theorem dX8_count_86 : decode cX8_count 86 = .ok (.getfield 14, 3) := by decide +kernel
theorem dX8_count_89 : decode cX8_count 89 = .ok (.invokevirtual 357, 3) := by decide +kernel
theorem dX8_count_92 : decode cX8_count 92 = .ok (.ireturn, 1) := by decide +kernel
theorem dX8_count_93 : decode cX8_count 93 = .ok (.iconst (-1), 1) := by decide +kernel
theorem dX8_count_94 : decode cX8_count 94 = .ok (.ireturn, 1) := by decide +kernel
end
section
theorem dX9_init_0 : decode cX9_init 0 = .ok (.aload_n 0, 1) := by decide +kernel
theorem dX9_init_1 : decode cX9_init 1 = .ok (.invokespecial 3, 3) := by decide +kernel
theorem dX9_init_4 : decode cX9_init 4 = .ok (.aload_n 0, 1) := by decide +kernel
theorem dX9_init_5 : decode cX9_init 5 = .ok (.sipush 235, 3) := by decide +kernel
theorem dX9_init_8 : decode cX9_init 8 = .ok (.newarray .int, 2) := by decide +kernel
theorem dX9_init_10 : decode cX9_init 10 = .ok (.putfield 9, 3) := by decide +kernel
theorem dX9_init_13 : decode cX9_init 13 = .ok (.aload_n 0, 1) := by decide +kernel
theorem dX9_init_14 : decode cX9_init 14 = .ok (.sipush 235, 3) := by decide +kernel
theorem dX9_init_17 : decode cX9_init 17 = .ok (.newarray .int, 2) := by decide +kernel
theorem dX9_init_19 : decode cX9_init 19 = .ok (.putfield 15, 3) := by decide +kernel
theorem dX9_init_22 : decode cX9_init 22 = .ok (.aload_n 0, 1) := by decide +kernel
theorem dX9_init_23 : decode cX9_init 23 = .ok (.sipush 235, 3) := by decide +kernel
theorem dX9_init_26 : decode cX9_init 26 = .ok (.newarray .int, 2) := by decide +kernel
theorem dX9_init_28 : decode cX9_init 28 = .ok (.putfield 18, 3) := by decide +kernel
theorem dX9_init_31 : decode cX9_init 31 = .ok (.aload_n 0, 1) := by decide +kernel
theorem dX9_init_32 : decode cX9_init 32 = .ok (.iconst 4, 1) := by decide +kernel
theorem dX9_init_33 : decode cX9_init 33 = .ok (.newarray .int, 2) := by decide +kernel
theorem dX9_init_35 : decode cX9_init 35 = .ok (.putfield 21, 3) := by decide +kernel
theorem dX9_init_38 : decode cX9_init 38 = .ok (.aload_n 0, 1) := by decide +kernel
theorem dX9_init_39 : decode cX9_init 39 = .ok (.bipush 60, 2) := by decide +kernel
theorem dX9_init_41 : decode cX9_init 41 = .ok (.newarray .int, 2) := by decide +kernel
theorem dX9_init_43 : decode cX9_init 43 = .ok (.putfield 24, 3) := by decide +kernel
theorem dX9_init_46 : decode cX9_init 46 = .ok (.aload_n 0, 1) := by decide +kernel
theorem dX9_init_47 : decode cX9_init 47 = .ok (.bipush 60, 2) := by decide +kernel
theorem dX9_init_49 : decode cX9_init 49 = .ok (.newarray .int, 2) := by decide +kernel
theorem dX9_init_51 : decode cX9_init 51 = .ok (.putfield 27, 3) := by decide +kernel
theorem dX9_init_54 : decode cX9_init 54 = .ok (.aload_n 0, 1) := by decide +kernel
theorem dX9_init_55 : decode cX9_init 55 = .ok (.bipush 12, 2) := by decide +kernel
theorem dX9_init_57 : decode cX9_init 57 = .ok (.newarray .int, 2) := by decide +kernel
theorem dX9_init_59 : decode cX9_init 59 = .ok (.putfield 30, 3) := by decide +kernel
theorem dX9_init_62 : decode cX9_init 62 = .ok (.aload_n 0, 1) := by decide +kernel
theorem dX9_init_63 : decode cX9_init 63 = .ok (.bipush 12, 2) := by decide +kernel
theorem dX9_init_65 : decode cX9_init 65 = .ok (.newarray .int, 2) := by decide +kernel
theorem dX9_init_67 : decode cX9_init 67 = .ok (.putfield 33, 3) := by decide +kernel
theorem dX9_init_70 : decode cX9_init 70 = .ok (.aload_n 0, 1) := by decide +kernel
theorem dX9_init_71 : decode cX9_init 71 = .ok (.bipush 12, 2) := by decide +kernel
theorem dX9_init_73 : decode cX9_init 73 = .ok (.newarray .int, 2) := by decide +kernel
theorem dX9_init_75 : decode cX9_init 75 = .ok (.putfield 36, 3) := by decide +kernel
theorem dX9_init_78 : decode cX9_init 78 = .ok (.aload_n 0, 1) := by decide +kernel
theorem dX9_init_79 : decode cX9_init 79 = .ok (.bipush 12, 2) := by decide +kernel
theorem dX9_init_81 : decode cX9_init 81 = .ok (.newarray .int, 2) := by decide +kernel
theorem dX9_init_83 : decode cX9_init 83 = .ok (.putfield 39, 3) := by decide +kernel
theorem dX9_init_86 : decode cX9_init 86 = .ok (.aload_n 0, 1) := by decide +kernel
theorem dX9_init_87 : decode cX9_init 87 = .ok (.iconst 2, 1) := by decide +kernel
theorem dX9_init_88 : decode cX9_init 88 = .ok (.invokevirtual 42, 3) := by decide +kernel
theorem dX9_init_91 : decode cX9_init 91 = .ok (.return_, 1) := by decide +kernel
theorem dX9_within_0 : decode cX9_within 0 = .ok (.iload_n 0, 1) := by decide +kernel
theorem dX9_within_1 : decode cX9_within 1 = .ok (.iload_n 1, 1) := by decide +kernel
theorem dX9_within_2 : decode cX9_within 2 = .ok (.if_icmp .lt 12, 3) := by decide +kernel
theorem dX9_within_5 : decode cX9_within 5 = .ok (.iload_n 0, 1) := by decide +kernel
theorem dX9_within_6 : decode cX9_within 6 = .ok (.iload_n 2, 1) := by decide +kernel
theorem dX9_within_7 : decode cX9_within 7 = .ok (.if_icmp .gt 7, 3) := by decide +kernel
theorem dX9_within_10 : decode cX9_within 10 = .ok (.iconst 1, 1) := by decide +kernel
theorem dX9_within_11 : decode cX9_within 11 = .ok (.goto 4, 3) := by decide +kernel
theorem dX9_within_14 : decode cX9_within 14 = .ok (.iconst 0, 1) := by decide +kernel
theorem dX9_within_15 : decode cX9_within 15 = .ok (.ireturn, 1) := by decide +kernel
theorem dX9_begins_0 : decode cX9_begins 0 = .ok (.iconst 0, 1) := by decide +kernel
theorem dX9_begins_1 : decode cX9_begins 1 = .ok (.istore_n 2, 1) := by decide +kernel
theorem dX9_begins_2 : decode cX9_begins 2 = .ok (.iload_n 2, 1) := by decide +kernel
theorem dX9_begins_3 : decode cX9_begins 3 = .ok (.bipush 6, 2) := by decide +kernel
theorem dX9_begins_5 : decode cX9_begins 5 = .ok (.if_icmp .ge 49, 3) := by decide +kernel
theorem dX9_begins_8 : decode cX9_begins 8 = .ok (.aload_n 0, 1) := by decide +kernel
theorem dX9_begins_9 : decode cX9_begins 9 = .ok (.getfield 9, 3) := by decide +kernel
theorem dX9_begins_12 : decode cX9_begins 12 = .ok (.iconst 0, 1) := by decide +kernel
theorem dX9_begins_13 : decode cX9_begins 13 = .ok (.iload_n 2, 1) := by decide +kernel
theorem dX9_begins_14 : decode cX9_begins 14 = .ok (.iadd, 1) := by decide +kernel
theorem dX9_begins_15 : decode cX9_begins 15 = .ok (.bipush 20, 2) := by decide +kernel
theorem dX9_begins_17 : decode cX9_begins 17 = .ok (.iastore, 1) := by decide +kernel
theorem dX9_begins_18 : decode cX9_begins 18 = .ok (.aload_n 0, 1) := by decide +kernel
theorem dX9_begins_19 : decode cX9_begins 19 = .ok (.getfield 9, 3) := by decide +kernel
theorem dX9_begins_22 : decode cX9_begins 22 = .ok (.bipush 6, 2) := by decide +kernel
theorem dX9_begins_24 : decode cX9_begins 24 = .ok (.iload_n 2, 1) := by decide +kernel
theorem dX9_begins_25 : decode cX9_begins 25 = .ok (.iadd, 1) := by decide +kernel
theorem dX9_begins_26 : decode cX9_begins 26 = .ok (.iconst 0, 1) := by decide +kernel
theorem dX9_begins_27 : decode cX9_begins 27 = .ok (.iastore, 1) := by decide +kernel
theorem dX9_begins_28 : decode cX9_begins 28 = .ok (.aload_n 0, 1) := by decide +kernel
theorem dX9_begins_29 : decode cX9_begins 29 = .ok (.getfield 9, 3) := by decide +kernel
theorem dX9_begins_32 : decode cX9_begins 32 = .ok (.bipush 12, 2) := by decide +kernel
theorem dX9_begins_34 : decode cX9_begins 34 = .ok (.iload_n 2, 1) := by decide +kernel
theorem dX9_begins_35 : decode cX9_begins 35 = .ok (.iadd, 1) := by decide +kernel
theorem dX9_begins_36 : decode cX9_begins 36 = .ok (.iconst 0, 1) := by decide +kernel
theorem dX9_begins_37 : decode cX9_begins 37 = .ok (.iastore, 1) := by decide +kernel
theorem dX9_begins_38 : decode cX9_begins 38 = .ok (.aload_n 0, 1) := by decide +kernel
theorem dX9_begins_39 : decode cX9_begins 39 = .ok (.getfield 9, 3) := by decide +kernel
theorem dX9_begins_42 : decode cX9_begins 42 = .ok (.bipush 18, 2) := by decide +kernel
theorem dX9_begins_44 : decode cX9_begins 44 = .ok (.iload_n 2, 1) := by decide +kernel
theorem dX9_begins_45 : decode cX9_begins 45 = .ok (.iadd, 1) := by decide +kernel
theorem dX9_begins_46 : decode cX9_begins 46 = .ok (.iconst 0, 1) := by decide +kernel
theorem dX9_begins_47 : decode cX9_begins 47 = .ok (.iastore, 1) := by decide +kernel
theorem dX9_begins_48 : decode cX9_begins 48 = .ok (.iinc 2 1, 3) := by decide +kernel
theorem dX9_begins_51 : decode cX9_begins 51 = .ok (.goto (-49), 3) := by decide +kernel
theorem dX9_begins_54 : decode cX9_begins 54 = .ok (.iconst 0, 1) := by decide +kernel
theorem dX9_begins_55 : decode cX9_begins 55 = .ok (.istore_n 2, 1) := by decide +kernel
theorem dX9_begins_56 : decode cX9_begins 56 = .ok (.iload_n 2, 1) := by decide +kernel
theorem dX9_begins_57 : decode cX9_begins 57 = .ok (.bipush 7, 2) := by decide +kernel
theorem dX9_begins_59 : decode cX9_begins 59 = .ok (.if_icmp .ge 53, 3) := by decide +kernel
theorem dX9_begins_62 : decode cX9_begins 62 = .ok (.aload_n 0, 1) := by decide +kernel
theorem dX9_begins_63 : decode cX9_begins 63 = .ok (.getfield 9, 3) := by decide +kernel
theorem dX9_begins_66 : decode cX9_begins 66 = .ok (.bipush 24, 2) := by decide +kernel
theorem dX9_begins_68 : decode cX9_begins 68 = .ok (.iload_n 2, 1) := by decide +kernel
theorem dX9_begins_69 : decode cX9_begins 69 = .ok (.iadd, 1) := by decide +kernel
theorem dX9_begins_70 : decode cX9_begins 70 = .ok (.sipush 500, 3) := by decide +kernel
theorem dX9_begins_73 : decode cX9_begins 73 = .ok (.iastore, 1) := by decide +kernel
theorem dX9_begins_74 : decode cX9_begins 74 = .ok (.aload_n 0, 1) := by decide +kernel
theorem dX9_begins_75 : decode cX9_begins 75 = .ok (.getfield 9, 3) := by decide +kernel
theorem dX9_begins_78 : decode cX9_begins 78 = .ok (.bipush 31, 2) := by decide +kernel
theorem dX9_begins_80 : decode cX9_begins 80 = .ok (.iload_n 2, 1) := by decide +kernel
theorem dX9_begins_81 : decode cX9_begins 81 = .ok (.iadd, 1) := by decide +kernel
theorem dX9_begins_82 : decode cX9_begins 82 = .ok (.iconst 0, 1) := by decide +kernel
theorem dX9_begins_83 : decode cX9_begins 83 = .ok (.iastore, 1) := by decide +kernel
theorem dX9_begins_84 : decode cX9_begins 84 = .ok (.aload_n 0, 1) := by decide +kernel
theorem dX9_begins_85 : decode cX9_begins 85 = .ok (.getfield 9, 3) := by decide +kernel
theorem dX9_begins_88 : decode cX9_begins 88 = .ok (.bipush 38, 2) := by decide +kernel
theorem dX9_begins_90 : decode cX9_begins 90 = .ok (.iload_n 2, 1) := by decide +kernel
theorem dX9_begins_91 : decode cX9_begins 91 = .ok (.iadd, 1) := by decide +kernel
theorem dX9_begins_92 : decode cX9_begins 92 = .ok (.sipush 9999, 3) := by decide +kernel
theorem dX9_begins_95 : decode cX9_begins 95 = .ok (.iastore, 1) := by decide +kernel
theorem dX9_begins_96 : decode cX9_begins 96 = .ok (.aload_n 0, 1) := by decide +kernel
theorem dX9_begins_97 : decode cX9_begins 97 = .ok (.getfield 9, 3) := by decide +kernel
theorem dX9_begins_100 : decode cX9_begins 100 = .ok (.bipush 45, 2) := by decide +kernel
theorem dX9_begins_102 : decode cX9_begins 102 = .ok (.iload_n 2, 1) := by decide +kernel
theorem dX9_begins_103 : decode cX9_begins 103 = .ok (.iadd, 1) := by decide +kernel
theorem dX9_begins_104 : decode cX9_begins 104 = .ok (.iconst 0, 1) := by decide +kernel
theorem dX9_begins_105 : decode cX9_begins 105 = .ok (.iastore, 1) := by decide +kernel
theorem dX9_begins_106 : decode cX9_begins 106 = .ok (.iinc 2 1, 3) := by decide +kernel
theorem dX9_begins_109 : decode cX9_begins 109 = .ok (.goto (-53), 3) := by decide +kernel
theorem dX9_begins_112 : decode cX9_begins 112 = .ok (.aload_n 0, 1) := by decide +kernel
theorem dX9_begins_113 : decode cX9_begins 113 = .ok (.getfield 9, 3) := by decide +kernel
theorem dX9_begins_116 : decode cX9_begins 116 = .ok (.bipush 52, 2) := by decide +kernel
theorem dX9_begins_118 : decode cX9_begins 118 = .ok (.iconst 0, 1) := by decide +kernel
theorem dX9_begins_119 : decode cX9_begins 119 = .ok (.iastore, 1) := by decide +kernel
theorem dX9_begins_120 : decode cX9_begins 120 = .ok (.aload_n 0, 1) := by decide +kernel
theorem dX9_begins_121 : decode cX9_begins 121 = .ok (.getfield 9, 3) := by decide +kernel
theorem dX9_begins_124 : decode cX9_begins 124 = .ok (.bipush 53, 2) := by decide +kernel
theorem dX9_begins_126 : decode cX9_begins 126 = .ok (.iload_n 1, 1) := by decide +kernel
theorem dX9_begins_127 : decode cX9_begins 127 = .ok (.iastore, 1) := by decide +kernel
theorem dX9_begins_128 : decode cX9_begins 128 = .ok (.aload_n 0, 1) := by decide +kernel
theorem dX9_begins_129 : decode cX9_begins 129 = .ok (.getfield 9, 3) := by decide +kernel
theorem dX9_begins_132 : decode cX9_begins 132 = .ok (.bipush 114, 2) := by decide +kernel
theorem dX9_begins_134 : decode cX9_begins 134 = .ok (.iconst 0, 1) := by decide +kernel
theorem dX9_begins_135 : decode cX9_begins 135 = .ok (.iastore, 1) := by decide +kernel
theorem dX9_begins_136 : decode cX9_begins 136 = .ok (.return_, 1) := by decide +kernel
theorem dX9_becomes_0 : decode cX9_becomes 0 = .ok (.aload_n 0, 1) := by decide +kernel
theorem dX9_becomes_1 : decode cX9_becomes 1 = .ok (.getfield 9, 3) := by decide +kernel
theorem dX9_becomes_4 : decode cX9_becomes 4 = .ok (.iload_n 1, 1) := by decide +kernel
theorem dX9_becomes_5 : decode cX9_becomes 5 = .ok (.iaload, 1) := by decide +kernel
theorem dX9_becomes_6 : decode cX9_becomes 6 = .ok (.istore_n 3, 1) := by decide +kernel
theorem dX9_becomes_7 : decode cX9_becomes 7 = .ok (.aload_n 0, 1) := by decide +kernel
theorem dX9_becomes_8 : decode cX9_becomes 8 = .ok (.getfield 9, 3) := by decide +kernel
theorem dX9_becomes_11 : decode cX9_becomes 11 = .ok (.iload_n 1, 1) := by decide +kernel
theorem dX9_becomes_12 : decode cX9_becomes 12 = .ok (.iload_n 2, 1) := by decide +kernel
theorem dX9_becomes_13 : decode cX9_becomes 13 = .ok (.iastore, 1) := by decide +kernel
theorem dX9_becomes_14 : decode cX9_becomes 14 = .ok (.iload_n 3, 1) := by decide +kernel
theorem dX9_becomes_15 : decode cX9_becomes 15 = .ok (.ireturn, 1) := by decide +kernel
theorem dX9_isLock_0 : decode cX9_isLock 0 = .ok (.iload_n 1, 1) := by decide +kernel
theorem dX9_isLock_1 : decode cX9_isLock 1 = .ok (.iconst 0, 1) := by decide +kernel
theorem dX9_isLock_2 : decode cX9_isLock 2 = .ok (.aload_n 0, 1) := by decide +kernel
theorem dX9_isLock_3 : decode cX9_isLock 3 = .ok (.getfield 9, 3) := by decide +kernel
theorem dX9_isLock_6 : decode cX9_isLock 6 = .ok (.bipush 53, 2) := by decide +kernel
theorem dX9_isLock_8 : decode cX9_isLock 8 = .ok (.iaload, 1) := by decide +kernel
theorem dX9_isLock_9 : decode cX9_isLock 9 = .ok (.iconst 1, 1) := by decide +kernel
theorem dX9_isLock_10 : decode cX9_isLock 10 = .ok (.isub, 1) := by decide +kernel
theorem dX9_isLock_11 : decode cX9_isLock 11 = .ok (.invokestatic 46, 3) := by decide +kernel
theorem dX9_isLock_14 : decode cX9_isLock 14 = .ok (.ireturn, 1) := by decide +kernel
theorem dX9_isReach_0 : decode cX9_isReach 0 = .ok (.iload_n 1, 1) := by decide +kernel
theorem dX9_isReach_1 : decode cX9_isReach 1 = .ok (.iconst 0, 1) := by decide +kernel
theorem dX9_isReach_2 : decode cX9_isReach 2 = .ok (.aload_n 0, 1) := by decide +kernel
theorem dX9_isReach_3 : decode cX9_isReach 3 = .ok (.getfield 9, 3) := by decide +kernel
theorem dX9_isReach_6 : decode cX9_isReach 6 = .ok (.bipush 53, 2) := by decide +kernel
theorem dX9_isReach_8 : decode cX9_isReach 8 = .ok (.iaload, 1) := by decide +kernel
theorem dX9_isReach_9 : decode cX9_isReach 9 = .ok (.invokestatic 46, 3) := by decide +kernel
theorem dX9_isReach_12 : decode cX9_isReach 12 = .ok (.ireturn, 1) := by decide +kernel
theorem dX9_isBoat_0 : decode cX9_isBoat 0 = .ok (.iload_n 1, 1) := by decide +kernel
theorem dX9_isBoat_1 : decode cX9_isBoat 1 = .ok (.iconst 0, 1) := by decide +kernel
theorem dX9_isBoat_2 : decode cX9_isBoat 2 = .ok (.aload_n 0, 1) := by decide +kernel
theorem dX9_isBoat_3 : decode cX9_isBoat 3 = .ok (.getfield 9, 3) := by decide +kernel
theorem dX9_isBoat_6 : decode cX9_isBoat 6 = .ok (.bipush 114, 2) := by decide +kernel
theorem dX9_isBoat_8 : decode cX9_isBoat 8 = .ok (.iaload, 1) := by decide +kernel
theorem dX9_isBoat_9 : decode cX9_isBoat 9 = .ok (.iconst 1, 1) := by decide +kernel
theorem dX9_isBoat_10 : decode cX9_isBoat 10 = .ok (.isub, 1) := by decide +kernel
theorem dX9_isBoat_11 : decode cX9_isBoat 11 = .ok (.invokestatic 46, 3) := by decide +kernel
theorem dX9_isBoat_14 : decode cX9_isBoat 14 = .ok (.ireturn, 1) := by decide +kernel
theorem dX9_pours_0 : decode cX9_pours 0 = .ok (.iconst 0, 1) := by decide +kernel
theorem dX9_pours_1 : decode cX9_pours 1 = .ok (.istore_n 2, 1) := by decide +kernel
theorem dX9_pours_2 : decode cX9_pours 2 = .ok (.iload_n 2, 1) := by decide +kernel
theorem dX9_pours_3 : decode cX9_pours 3 = .ok (.sipush 235, 3) := by decide +kernel
theorem dX9_pours_6 : decode cX9_pours 6 = .ok (.if_icmp .ge 15, 3) := by decide +kernel
theorem dX9_pours_9 : decode cX9_pours 9 = .ok (.aload_n 1, 1) := by decide +kernel
theorem dX9_pours_10 : decode cX9_pours 10 = .ok (.iload_n 2, 1) := by decide +kernel
theorem dX9_pours_11 : decode cX9_pours 11 = .ok (.aload_n 0, 1) := by decide +kernel
theorem dX9_pours_12 : decode cX9_pours 12 = .ok (.iload_n 2, 1) := by decide +kernel
theorem dX9_pours_13 : decode cX9_pours 13 = .ok (.iaload, 1) := by decide +kernel
theorem dX9_pours_14 : decode cX9_pours 14 = .ok (.iastore, 1) := by decide +kernel
theorem dX9_pours_15 : decode cX9_pours 15 = .ok (.iinc 2 1, 3) := by decide +kernel
theorem dX9_pours_18 : decode cX9_pours 18 = .ok (.goto (-16), 3) := by decide +kernel
theorem dX9_pours_21 : decode cX9_pours 21 = .ok (.return_, 1) := by decide +kernel
theorem dX9_locks_0 : decode cX9_locks 0 = .ok (.iload_n 1, 1) := by decide +kernel
theorem dX9_locks_1 : decode cX9_locks 1 = .ok (.iconst 1, 1) := by decide +kernel
theorem dX9_locks_2 : decode cX9_locks 2 = .ok (.bipush 6, 2) := by decide +kernel
theorem dX9_locks_4 : decode cX9_locks 4 = .ok (.invokestatic 46, 3) := by decide +kernel
theorem dX9_locks_7 : decode cX9_locks 7 = .ok (.ifCond .ne 5, 3) := by decide +kernel
theorem dX9_locks_10 : decode cX9_locks 10 = .ok (.iconst (-1), 1) := by decide +kernel
theorem dX9_locks_11 : decode cX9_locks 11 = .ok (.ireturn, 1) := by decide +kernel
theorem dX9_locks_12 : decode cX9_locks 12 = .ok (.aload_n 0, 1) := by decide +kernel
theorem dX9_locks_13 : decode cX9_locks 13 = .ok (.getfield 9, 3) := by decide +kernel
theorem dX9_locks_16 : decode cX9_locks 16 = .ok (.bipush 53, 2) := by decide +kernel
theorem dX9_locks_18 : decode cX9_locks 18 = .ok (.iaload, 1) := by decide +kernel
theorem dX9_locks_19 : decode cX9_locks 19 = .ok (.istore_n 2, 1) := by decide +kernel
theorem dX9_locks_20 : decode cX9_locks 20 = .ok (.aload_n 0, 1) := by decide +kernel
theorem dX9_locks_21 : decode cX9_locks 21 = .ok (.iload_n 1, 1) := by decide +kernel
theorem dX9_locks_22 : decode cX9_locks 22 = .ok (.invokevirtual 42, 3) := by decide +kernel
theorem dX9_locks_25 : decode cX9_locks 25 = .ok (.iload_n 2, 1) := by decide +kernel
theorem dX9_locks_26 : decode cX9_locks 26 = .ok (.ireturn, 1) := by decide +kernel
theorem dX9_lock_0 : decode cX9_lock 0 = .ok (.aload_n 0, 1) := by decide +kernel
theorem dX9_lock_1 : decode cX9_lock 1 = .ok (.iload_n 1, 1) := by decide +kernel
theorem dX9_lock_2 : decode cX9_lock 2 = .ok (.invokevirtual 50, 3) := by decide +kernel
theorem dX9_lock_5 : decode cX9_lock 5 = .ok (.ifCond .eq 12, 3) := by decide +kernel
theorem dX9_lock_8 : decode cX9_lock 8 = .ok (.iload_n 2, 1) := by decide +kernel
theorem dX9_lock_9 : decode cX9_lock 9 = .ok (.iconst 0, 1) := by decide +kernel
theorem dX9_lock_10 : decode cX9_lock 10 = .ok (.iconst 1, 1) := by decide +kernel
theorem dX9_lock_11 : decode cX9_lock 11 = .ok (.invokestatic 46, 3) := by decide +kernel
theorem dX9_lock_14 : decode cX9_lock 14 = .ok (.ifCond .ne 5, 3) := by decide +kernel
theorem dX9_lock_17 : decode cX9_lock 17 = .ok (.iconst (-1), 1) := by decide +kernel
theorem dX9_lock_18 : decode cX9_lock 18 = .ok (.ireturn, 1) := by decide +kernel
theorem dX9_lock_19 : decode cX9_lock 19 = .ok (.iload_n 2, 1) := by decide +kernel
theorem dX9_lock_20 : decode cX9_lock 20 = .ok (.ifCond .ne 16, 3) := by decide +kernel
theorem dX9_lock_23 : decode cX9_lock 23 = .ok (.iload_n 3, 1) := by decide +kernel
theorem dX9_lock_24 : decode cX9_lock 24 = .ok (.iconst 1, 1) := by decide +kernel
theorem dX9_lock_25 : decode cX9_lock 25 = .ok (.bipush 99, 2) := by decide +kernel
theorem dX9_lock_27 : decode cX9_lock 27 = .ok (.invokestatic 46, 3) := by decide +kernel
theorem dX9_lock_30 : decode cX9_lock 30 = .ok (.ifCond .ne 17, 3) := by decide +kernel
theorem dX9_lock_33 : decode cX9_lock 33 = .ok (.goto 12, 3) := by decide +kernel
theorem dX9_lock_36 : decode cX9_lock 36 = .ok (.iload_n 3, 1) := by decide +kernel
theorem dX9_lock_37 : decode cX9_lock 37 = .ok (.iconst 0, 1) := by decide +kernel
theorem dX9_lock_38 : decode cX9_lock 38 = .ok (.iconst 3, 1) := by decide +kernel
theorem dX9_lock_39 : decode cX9_lock 39 = .ok (.invokestatic 46, 3) := by decide +kernel
theorem dX9_lock_42 : decode cX9_lock 42 = .ok (.ifCond .ne 5, 3) := by decide +kernel
theorem dX9_lock_45 : decode cX9_lock 45 = .ok (.iconst (-1), 1) := by decide +kernel
theorem dX9_lock_46 : decode cX9_lock 46 = .ok (.ireturn, 1) := by decide +kernel
theorem dX9_lock_47 : decode cX9_lock 47 = .ok (.aload_n 0, 1) := by decide +kernel
theorem dX9_lock_48 : decode cX9_lock 48 = .ok (.getfield 9, 3) := by decide +kernel
theorem dX9_lock_51 : decode cX9_lock 51 = .ok (.bipush 18, 2) := by decide +kernel
theorem dX9_lock_53 : decode cX9_lock 53 = .ok (.iload_n 1, 1) := by decide +kernel
theorem dX9_lock_54 : decode cX9_lock 54 = .ok (.iadd, 1) := by decide +kernel
theorem dX9_lock_55 : decode cX9_lock 55 = .ok (.iaload, 1) := by decide +kernel
theorem dX9_lock_56 : decode cX9_lock 56 = .ok (.iconst 1, 1) := by decide +kernel
theorem dX9_lock_57 : decode cX9_lock 57 = .ok (.if_icmp .eq 15, 3) := by decide +kernel
theorem dX9_lock_60 : decode cX9_lock 60 = .ok (.aload_n 0, 1) := by decide +kernel
theorem dX9_lock_61 : decode cX9_lock 61 = .ok (.getfield 9, 3) := by decide +kernel
theorem dX9_lock_64 : decode cX9_lock 64 = .ok (.bipush 12, 2) := by decide +kernel
theorem dX9_lock_66 : decode cX9_lock 66 = .ok (.iload_n 1, 1) := by decide +kernel
theorem dX9_lock_67 : decode cX9_lock 67 = .ok (.iadd, 1) := by decide +kernel
theorem dX9_lock_68 : decode cX9_lock 68 = .ok (.iaload, 1) := by decide +kernel
theorem dX9_lock_69 : decode cX9_lock 69 = .ok (.ifCond .le 6, 3) := by decide +kernel
theorem dX9_lock_72 : decode cX9_lock 72 = .ok (.bipush (-5), 2) := by decide +kernel
theorem dX9_lock_74 : decode cX9_lock 74 = .ok (.ireturn, 1) := by decide +kernel
theorem dX9_lock_75 : decode cX9_lock 75 = .ok (.aload_n 0, 1) := by decide +kernel
theorem dX9_lock_76 : decode cX9_lock 76 = .ok (.iload_n 2, 1) := by decide +kernel
theorem dX9_lock_77 : decode cX9_lock 77 = .ok (.ifCond .ne 7, 3) := by decide +kernel
theorem dX9_lock_80 : decode cX9_lock 80 = .ok (.iconst 0, 1) := by decide +kernel
theorem dX9_lock_81 : decode cX9_lock 81 = .ok (.goto 5, 3) := by decide +kernel
theorem dX9_lock_84 : decode cX9_lock 84 = .ok (.bipush 6, 2) := by decide +kernel
theorem dX9_lock_86 : decode cX9_lock 86 = .ok (.iload_n 1, 1) := by decide +kernel
theorem dX9_lock_87 : decode cX9_lock 87 = .ok (.iadd, 1) := by decide +kernel
theorem dX9_lock_88 : decode cX9_lock 88 = .ok (.iload_n 3, 1) := by decide +kernel
theorem dX9_lock_89 : decode cX9_lock 89 = .ok (.invokevirtual 54, 3) := by decide +kernel
theorem dX9_lock_92 : decode cX9_lock 92 = .ok (.ireturn, 1) := by decide +kernel
theorem dX9_share_0 : decode cX9_share 0 = .ok (.aload_n 0, 1) := by decide +kernel
theorem dX9_share_1 : decode cX9_share 1 = .ok (.getfield 9, 3) := by decide +kernel
theorem dX9_share_4 : decode cX9_share 4 = .ok (.iconst 0, 1) := by decide +kernel
theorem dX9_share_5 : decode cX9_share 5 = .ok (.iload_n 1, 1) := by decide +kernel
theorem dX9_share_6 : decode cX9_share 6 = .ok (.iadd, 1) := by decide +kernel
theorem dX9_share_7 : decode cX9_share 7 = .ok (.iaload, 1) := by decide +kernel
theorem dX9_share_8 : decode cX9_share 8 = .ok (.aload_n 0, 1) := by decide +kernel
theorem dX9_share_9 : decode cX9_share 9 = .ok (.getfield 9, 3) := by decide +kernel
theorem dX9_share_12 : decode cX9_share 12 = .ok (.bipush 6, 2) := by decide +kernel
theorem dX9_share_14 : decode cX9_share 14 = .ok (.iload_n 1, 1) := by decide +kernel
theorem dX9_share_15 : decode cX9_share 15 = .ok (.iadd, 1) := by decide +kernel
theorem dX9_share_16 : decode cX9_share 16 = .ok (.iaload, 1) := by decide +kernel
theorem dX9_share_17 : decode cX9_share 17 = .ok (.imul, 1) := by decide +kernel
theorem dX9_share_18 : decode cX9_share 18 = .ok (.aload_n 0, 1) := by decide +kernel
theorem dX9_share_19 : decode cX9_share 19 = .ok (.getfield 9, 3) := by decide +kernel
theorem dX9_share_22 : decode cX9_share 22 = .ok (.bipush 6, 2) := by decide +kernel
theorem dX9_share_24 : decode cX9_share 24 = .ok (.iload_n 1, 1) := by decide +kernel
theorem dX9_share_25 : decode cX9_share 25 = .ok (.iadd, 1) := by decide +kernel
theorem dX9_share_26 : decode cX9_share 26 = .ok (.iaload, 1) := by decide +kernel
theorem dX9_share_27 : decode cX9_share 27 = .ok (.iconst 2, 1) := by decide +kernel
theorem dX9_share_28 : decode cX9_share 28 = .ok (.iadd, 1) := by decide +kernel
theorem dX9_share_29 : decode cX9_share 29 = .ok (.idiv, 1) := by decide +kernel
theorem dX9_share_30 : decode cX9_share 30 = .ok (.ireturn, 1) := by decide +kernel
theorem dX9_ofLock_0 : decode cX9_ofLock 0 = .ok (.aload_n 0, 1) := by decide +kernel
theorem dX9_ofLock_1 : decode cX9_ofLock 1 = .ok (.iload_n 1, 1) := by decide +kernel
theorem dX9_ofLock_2 : decode cX9_ofLock 2 = .ok (.invokevirtual 50, 3) := by decide +kernel
theorem dX9_ofLock_5 : decode cX9_ofLock 5 = .ok (.ifCond .eq 12, 3) := by decide +kernel
theorem dX9_ofLock_8 : decode cX9_ofLock 8 = .ok (.iload_n 2, 1) := by decide +kernel
theorem dX9_ofLock_9 : decode cX9_ofLock 9 = .ok (.iconst 0, 1) := by decide +kernel
theorem dX9_ofLock_10 : decode cX9_ofLock 10 = .ok (.iconst 4, 1) := by decide +kernel
theorem dX9_ofLock_11 : decode cX9_ofLock 11 = .ok (.invokestatic 46, 3) := by decide +kernel
theorem dX9_ofLock_14 : decode cX9_ofLock 14 = .ok (.ifCond .ne 5, 3) := by decide +kernel
theorem dX9_ofLock_17 : decode cX9_ofLock 17 = .ok (.iconst (-1), 1) := by decide +kernel
theorem dX9_ofLock_18 : decode cX9_ofLock 18 = .ok (.ireturn, 1) := by decide +kernel
theorem dX9_ofLock_19 : decode cX9_ofLock 19 = .ok (.iload_n 2, 1) := by decide +kernel
theorem dX9_ofLock_20 : decode cX9_ofLock 20 = .ok (.iconst 4, 1) := by decide +kernel
theorem dX9_ofLock_21 : decode cX9_ofLock 21 = .ok (.if_icmp .ne 11, 3) := by decide +kernel
theorem dX9_ofLock_24 : decode cX9_ofLock 24 = .ok (.aload_n 0, 1) := by decide +kernel
theorem dX9_ofLock_25 : decode cX9_ofLock 25 = .ok (.iload_n 1, 1) := by decide +kernel
theorem dX9_ofLock_26 : decode cX9_ofLock 26 = .ok (.invokevirtual 58, 3) := by decide +kernel
theorem dX9_ofLock_29 : decode cX9_ofLock 29 = .ok (.goto 14, 3) := by decide +kernel
theorem dX9_ofLock_32 : decode cX9_ofLock 32 = .ok (.aload_n 0, 1) := by decide +kernel
theorem dX9_ofLock_33 : decode cX9_ofLock 33 = .ok (.getfield 9, 3) := by decide +kernel
theorem dX9_ofLock_36 : decode cX9_ofLock 36 = .ok (.bipush 6, 2) := by decide +kernel
theorem dX9_ofLock_38 : decode cX9_ofLock 38 = .ok (.iload_n 2, 1) := by decide +kernel
theorem dX9_ofLock_39 : decode cX9_ofLock 39 = .ok (.imul, 1) := by decide +kernel
theorem dX9_ofLock_40 : decode cX9_ofLock 40 = .ok (.iload_n 1, 1) := by decide +kernel
theorem dX9_ofLock_41 : decode cX9_ofLock 41 = .ok (.iadd, 1) := by decide +kernel
theorem dX9_ofLock_42 : decode cX9_ofLock 42 = .ok (.iaload, 1) := by decide +kernel
theorem dX9_ofLock_43 : decode cX9_ofLock 43 = .ok (.ireturn, 1) := by decide +kernel
theorem dX9_reach_0 : decode cX9_reach 0 = .ok (.aload_n 0, 1) := by decide +kernel
theorem dX9_reach_1 : decode cX9_reach 1 = .ok (.iload_n 1, 1) := by decide +kernel
theorem dX9_reach_2 : decode cX9_reach 2 = .ok (.invokevirtual 62, 3) := by decide +kernel
theorem dX9_reach_5 : decode cX9_reach 5 = .ok (.ifCond .eq 33, 3) := by decide +kernel
theorem dX9_reach_8 : decode cX9_reach 8 = .ok (.iload_n 2, 1) := by decide +kernel
theorem dX9_reach_9 : decode cX9_reach 9 = .ok (.iconst 0, 1) := by decide +kernel
theorem dX9_reach_10 : decode cX9_reach 10 = .ok (.iconst 3, 1) := by decide +kernel
theorem dX9_reach_11 : decode cX9_reach 11 = .ok (.invokestatic 46, 3) := by decide +kernel
theorem dX9_reach_14 : decode cX9_reach 14 = .ok (.ifCond .eq 24, 3) := by decide +kernel
theorem dX9_reach_17 : decode cX9_reach 17 = .ok (.iload_n 3, 1) := by decide +kernel
theorem dX9_reach_18 : decode cX9_reach 18 = .ok (.iconst 0, 1) := by decide +kernel
theorem dX9_reach_19 : decode cX9_reach 19 = .ok (.iload_n 2, 1) := by decide +kernel
theorem dX9_reach_20 : decode cX9_reach 20 = .ok (.iconst 3, 1) := by decide +kernel
theorem dX9_reach_21 : decode cX9_reach 21 = .ok (.if_icmp .ne 8, 3) := by decide +kernel
theorem dX9_reach_24 : decode cX9_reach 24 = .ok (.bipush 99, 2) := by decide +kernel
theorem dX9_reach_26 : decode cX9_reach 26 = .ok (.goto 6, 3) := by decide +kernel
theorem dX9_reach_29 : decode cX9_reach 29 = .ok (.sipush 9999, 3) := by decide +kernel
theorem dX9_reach_32 : decode cX9_reach 32 = .ok (.invokestatic 46, 3) := by decide +kernel
theorem dX9_reach_35 : decode cX9_reach 35 = .ok (.ifCond .ne 5, 3) := by decide +kernel
theorem dX9_reach_38 : decode cX9_reach 38 = .ok (.iconst (-1), 1) := by decide +kernel
theorem dX9_reach_39 : decode cX9_reach 39 = .ok (.ireturn, 1) := by decide +kernel
theorem dX9_reach_40 : decode cX9_reach 40 = .ok (.iload_n 2, 1) := by decide +kernel
theorem dX9_reach_41 : decode cX9_reach 41 = .ok (.ifCond .ne 7, 3) := by decide +kernel
theorem dX9_reach_44 : decode cX9_reach 44 = .ok (.iload_n 3, 1) := by decide +kernel
theorem dX9_reach_45 : decode cX9_reach 45 = .ok (.goto 12, 3) := by decide +kernel
theorem dX9_reach_48 : decode cX9_reach 48 = .ok (.aload_n 0, 1) := by decide +kernel
theorem dX9_reach_49 : decode cX9_reach 49 = .ok (.getfield 9, 3) := by decide +kernel
theorem dX9_reach_52 : decode cX9_reach 52 = .ok (.bipush 24, 2) := by decide +kernel
theorem dX9_reach_54 : decode cX9_reach 54 = .ok (.iload_n 1, 1) := by decide +kernel
theorem dX9_reach_55 : decode cX9_reach 55 = .ok (.iadd, 1) := by decide +kernel
theorem dX9_reach_56 : decode cX9_reach 56 = .ok (.iaload, 1) := by decide +kernel
theorem dX9_reach_57 : decode cX9_reach 57 = .ok (.istore 4, 2) := by decide +kernel
theorem dX9_reach_59 : decode cX9_reach 59 = .ok (.iload_n 2, 1) := by decide +kernel
theorem dX9_reach_60 : decode cX9_reach 60 = .ok (.iconst 1, 1) := by decide +kernel
theorem dX9_reach_61 : decode cX9_reach 61 = .ok (.if_icmp .ne 7, 3) := by decide +kernel
theorem dX9_reach_64 : decode cX9_reach 64 = .ok (.iload_n 3, 1) := by decide +kernel
theorem dX9_reach_65 : decode cX9_reach 65 = .ok (.goto 12, 3) := by decide +kernel
theorem dX9_reach_68 : decode cX9_reach 68 = .ok (.aload_n 0, 1) := by decide +kernel
theorem dX9_reach_69 : decode cX9_reach 69 = .ok (.getfield 9, 3) := by decide +kernel
theorem dX9_reach_72 : decode cX9_reach 72 = .ok (.bipush 31, 2) := by decide +kernel
theorem dX9_reach_74 : decode cX9_reach 74 = .ok (.iload_n 1, 1) := by decide +kernel
theorem dX9_reach_75 : decode cX9_reach 75 = .ok (.iadd, 1) := by decide +kernel
theorem dX9_reach_76 : decode cX9_reach 76 = .ok (.iaload, 1) := by decide +kernel
theorem dX9_reach_77 : decode cX9_reach 77 = .ok (.istore 5, 2) := by decide +kernel
theorem dX9_reach_79 : decode cX9_reach 79 = .ok (.iload_n 2, 1) := by decide +kernel
theorem dX9_reach_80 : decode cX9_reach 80 = .ok (.iconst 2, 1) := by decide +kernel
theorem dX9_reach_81 : decode cX9_reach 81 = .ok (.if_icmp .ne 7, 3) := by decide +kernel
theorem dX9_reach_84 : decode cX9_reach 84 = .ok (.iload_n 3, 1) := by decide +kernel
theorem dX9_reach_85 : decode cX9_reach 85 = .ok (.goto 12, 3) := by decide +kernel
theorem dX9_reach_88 : decode cX9_reach 88 = .ok (.aload_n 0, 1) := by decide +kernel
theorem dX9_reach_89 : decode cX9_reach 89 = .ok (.getfield 9, 3) := by decide +kernel
theorem dX9_reach_92 : decode cX9_reach 92 = .ok (.bipush 38, 2) := by decide +kernel
theorem dX9_reach_94 : decode cX9_reach 94 = .ok (.iload_n 1, 1) := by decide +kernel
theorem dX9_reach_95 : decode cX9_reach 95 = .ok (.iadd, 1) := by decide +kernel
theorem dX9_reach_96 : decode cX9_reach 96 = .ok (.iaload, 1) := by decide +kernel
theorem dX9_reach_97 : decode cX9_reach 97 = .ok (.istore 6, 2) := by decide +kernel
theorem dX9_reach_99 : decode cX9_reach 99 = .ok (.iload 4, 2) := by decide +kernel
theorem dX9_reach_101 : decode cX9_reach 101 = .ok (.iload 5, 2) := by decide +kernel
theorem dX9_reach_103 : decode cX9_reach 103 = .ok (.if_icmp .lt 10, 3) := by decide +kernel
theorem dX9_reach_106 : decode cX9_reach 106 = .ok (.iload 4, 2) := by decide +kernel
theorem dX9_reach_108 : decode cX9_reach 108 = .ok (.iload 6, 2) := by decide +kernel
theorem dX9_reach_110 : decode cX9_reach 110 = .ok (.if_icmp .le 6, 3) := by decide +kernel
theorem dX9_reach_113 : decode cX9_reach 113 = .ok (.bipush (-5), 2) := by decide +kernel
theorem dX9_reach_115 : decode cX9_reach 115 = .ok (.ireturn, 1) := by decide +kernel
theorem dX9_reach_116 : decode cX9_reach 116 = .ok (.aload_n 0, 1) := by decide +kernel
theorem dX9_reach_117 : decode cX9_reach 117 = .ok (.bipush 24, 2) := by decide +kernel
theorem dX9_reach_119 : decode cX9_reach 119 = .ok (.bipush 7, 2) := by decide +kernel
theorem dX9_reach_121 : decode cX9_reach 121 = .ok (.iload_n 2, 1) := by decide +kernel
theorem dX9_reach_122 : decode cX9_reach 122 = .ok (.imul, 1) := by decide +kernel
theorem dX9_reach_123 : decode cX9_reach 123 = .ok (.iadd, 1) := by decide +kernel
theorem dX9_reach_124 : decode cX9_reach 124 = .ok (.iload_n 1, 1) := by decide +kernel
theorem dX9_reach_125 : decode cX9_reach 125 = .ok (.iadd, 1) := by decide +kernel
theorem dX9_reach_126 : decode cX9_reach 126 = .ok (.iload_n 3, 1) := by decide +kernel
theorem dX9_reach_127 : decode cX9_reach 127 = .ok (.invokevirtual 54, 3) := by decide +kernel
theorem dX9_reach_130 : decode cX9_reach 130 = .ok (.ireturn, 1) := by decide +kernel
theorem dX9_ofReach_0 : decode cX9_ofReach 0 = .ok (.aload_n 0, 1) := by decide +kernel
theorem dX9_ofReach_1 : decode cX9_ofReach 1 = .ok (.iload_n 1, 1) := by decide +kernel
theorem dX9_ofReach_2 : decode cX9_ofReach 2 = .ok (.invokevirtual 62, 3) := by decide +kernel
theorem dX9_ofReach_5 : decode cX9_ofReach 5 = .ok (.ifCond .eq 12, 3) := by decide +kernel
theorem dX9_ofReach_8 : decode cX9_ofReach 8 = .ok (.iload_n 2, 1) := by decide +kernel
theorem dX9_ofReach_9 : decode cX9_ofReach 9 = .ok (.iconst 0, 1) := by decide +kernel
theorem dX9_ofReach_10 : decode cX9_ofReach 10 = .ok (.iconst 4, 1) := by decide +kernel
theorem dX9_ofReach_11 : decode cX9_ofReach 11 = .ok (.invokestatic 46, 3) := by decide +kernel
theorem dX9_ofReach_14 : decode cX9_ofReach 14 = .ok (.ifCond .ne 5, 3) := by decide +kernel
theorem dX9_ofReach_17 : decode cX9_ofReach 17 = .ok (.iconst (-1), 1) := by decide +kernel
theorem dX9_ofReach_18 : decode cX9_ofReach 18 = .ok (.ireturn, 1) := by decide +kernel
theorem dX9_ofReach_19 : decode cX9_ofReach 19 = .ok (.iload_n 2, 1) := by decide +kernel
theorem dX9_ofReach_20 : decode cX9_ofReach 20 = .ok (.iconst 4, 1) := by decide +kernel
theorem dX9_ofReach_21 : decode cX9_ofReach 21 = .ok (.if_icmp .ge 18, 3) := by decide +kernel
theorem dX9_ofReach_24 : decode cX9_ofReach 24 = .ok (.aload_n 0, 1) := by decide +kernel
theorem dX9_ofReach_25 : decode cX9_ofReach 25 = .ok (.getfield 9, 3) := by decide +kernel
theorem dX9_ofReach_28 : decode cX9_ofReach 28 = .ok (.bipush 24, 2) := by decide +kernel
theorem dX9_ofReach_30 : decode cX9_ofReach 30 = .ok (.bipush 7, 2) := by decide +kernel
theorem dX9_ofReach_32 : decode cX9_ofReach 32 = .ok (.iload_n 2, 1) := by decide +kernel
theorem dX9_ofReach_33 : decode cX9_ofReach 33 = .ok (.imul, 1) := by decide +kernel
theorem dX9_ofReach_34 : decode cX9_ofReach 34 = .ok (.iadd, 1) := by decide +kernel
theorem dX9_ofReach_35 : decode cX9_ofReach 35 = .ok (.iload_n 1, 1) := by decide +kernel
theorem dX9_ofReach_36 : decode cX9_ofReach 36 = .ok (.iadd, 1) := by decide +kernel
theorem dX9_ofReach_37 : decode cX9_ofReach 37 = .ok (.iaload, 1) := by decide +kernel
theorem dX9_ofReach_38 : decode cX9_ofReach 38 = .ok (.ireturn, 1) := by decide +kernel
theorem dX9_ofReach_39 : decode cX9_ofReach 39 = .ok (.iconst 0, 1) := by decide +kernel
theorem dX9_ofReach_40 : decode cX9_ofReach 40 = .ok (.istore_n 3, 1) := by decide +kernel
theorem dX9_ofReach_41 : decode cX9_ofReach 41 = .ok (.iconst 0, 1) := by decide +kernel
theorem dX9_ofReach_42 : decode cX9_ofReach 42 = .ok (.istore 4, 2) := by decide +kernel
theorem dX9_ofReach_44 : decode cX9_ofReach 44 = .ok (.iload 4, 2) := by decide +kernel
theorem dX9_ofReach_46 : decode cX9_ofReach 46 = .ok (.aload_n 0, 1) := by decide +kernel
theorem dX9_ofReach_47 : decode cX9_ofReach 47 = .ok (.getfield 9, 3) := by decide +kernel
theorem dX9_ofReach_50 : decode cX9_ofReach 50 = .ok (.bipush 114, 2) := by decide +kernel
theorem dX9_ofReach_52 : decode cX9_ofReach 52 = .ok (.iaload, 1) := by decide +kernel
theorem dX9_ofReach_53 : decode cX9_ofReach 53 = .ok (.if_icmp .ge 26, 3) := by decide +kernel
theorem dX9_ofReach_56 : decode cX9_ofReach 56 = .ok (.aload_n 0, 1) := by decide +kernel
theorem dX9_ofReach_57 : decode cX9_ofReach 57 = .ok (.getfield 9, 3) := by decide +kernel
theorem dX9_ofReach_60 : decode cX9_ofReach 60 = .ok (.bipush 102, 2) := by decide +kernel
theorem dX9_ofReach_62 : decode cX9_ofReach 62 = .ok (.iload 4, 2) := by decide +kernel
theorem dX9_ofReach_64 : decode cX9_ofReach 64 = .ok (.iadd, 1) := by decide +kernel
theorem dX9_ofReach_65 : decode cX9_ofReach 65 = .ok (.iaload, 1) := by decide +kernel
theorem dX9_ofReach_66 : decode cX9_ofReach 66 = .ok (.iload_n 1, 1) := by decide +kernel
theorem dX9_ofReach_67 : decode cX9_ofReach 67 = .ok (.if_icmp .ne 6, 3) := by decide +kernel
theorem dX9_ofReach_70 : decode cX9_ofReach 70 = .ok (.iinc 3 1, 3) := by decide +kernel
theorem dX9_ofReach_73 : decode cX9_ofReach 73 = .ok (.iinc 4 1, 3) := by decide +kernel
theorem dX9_ofReach_76 : decode cX9_ofReach 76 = .ok (.goto (-32), 3) := by decide +kernel
theorem dX9_ofReach_79 : decode cX9_ofReach 79 = .ok (.iload_n 3, 1) := by decide +kernel
theorem dX9_ofReach_80 : decode cX9_ofReach 80 = .ok (.ireturn, 1) := by decide +kernel
theorem dX9_feeds_0 : decode cX9_feeds 0 = .ok (.iload_n 1, 1) := by decide +kernel
theorem dX9_feeds_1 : decode cX9_feeds 1 = .ok (.iconst 0, 1) := by decide +kernel
theorem dX9_feeds_2 : decode cX9_feeds 2 = .ok (.sipush 999, 3) := by decide +kernel
theorem dX9_feeds_5 : decode cX9_feeds 5 = .ok (.invokestatic 46, 3) := by decide +kernel
theorem dX9_feeds_8 : decode cX9_feeds 8 = .ok (.ifCond .eq 13, 3) := by decide +kernel
theorem dX9_feeds_11 : decode cX9_feeds 11 = .ok (.aload_n 0, 1) := by decide +kernel
theorem dX9_feeds_12 : decode cX9_feeds 12 = .ok (.bipush 52, 2) := by decide +kernel
theorem dX9_feeds_14 : decode cX9_feeds 14 = .ok (.iload_n 1, 1) := by decide +kernel
theorem dX9_feeds_15 : decode cX9_feeds 15 = .ok (.invokevirtual 54, 3) := by decide +kernel
theorem dX9_feeds_18 : decode cX9_feeds 18 = .ok (.goto 4, 3) := by decide +kernel
theorem dX9_feeds_21 : decode cX9_feeds 21 = .ok (.iconst (-1), 1) := by decide +kernel
theorem dX9_feeds_22 : decode cX9_feeds 22 = .ok (.ireturn, 1) := by decide +kernel
theorem dX9_feed_0 : decode cX9_feed 0 = .ok (.iload_n 1, 1) := by decide +kernel
theorem dX9_feed_1 : decode cX9_feed 1 = .ok (.bipush 32, 2) := by decide +kernel
theorem dX9_feed_3 : decode cX9_feed 3 = .ok (.bipush 126, 2) := by decide +kernel
theorem dX9_feed_5 : decode cX9_feed 5 = .ok (.invokestatic 46, 3) := by decide +kernel
theorem dX9_feed_8 : decode cX9_feed 8 = .ok (.ifCond .ne 5, 3) := by decide +kernel
theorem dX9_feed_11 : decode cX9_feed 11 = .ok (.iconst (-1), 1) := by decide +kernel
theorem dX9_feed_12 : decode cX9_feed 12 = .ok (.ireturn, 1) := by decide +kernel
theorem dX9_feed_13 : decode cX9_feed 13 = .ok (.aload_n 0, 1) := by decide +kernel
theorem dX9_feed_14 : decode cX9_feed 14 = .ok (.getfield 65, 3) := by decide +kernel
theorem dX9_feed_17 : decode cX9_feed 17 = .ok (.bipush 60, 2) := by decide +kernel
theorem dX9_feed_19 : decode cX9_feed 19 = .ok (.if_icmp .ne 6, 3) := by decide +kernel
theorem dX9_feed_22 : decode cX9_feed 22 = .ok (.bipush (-3), 2) := by decide +kernel
theorem dX9_feed_24 : decode cX9_feed 24 = .ok (.ireturn, 1) := by decide +kernel
theorem dX9_feed_25 : decode cX9_feed 25 = .ok (.aload_n 0, 1) := by decide +kernel
theorem dX9_feed_26 : decode cX9_feed 26 = .ok (.getfield 24, 3) := by decide +kernel
theorem dX9_feed_29 : decode cX9_feed 29 = .ok (.aload_n 0, 1) := by decide +kernel
theorem dX9_feed_30 : decode cX9_feed 30 = .ok (.dup, 1) := by decide +kernel
theorem dX9_feed_31 : decode cX9_feed 31 = .ok (.getfield 65, 3) := by decide +kernel
theorem dX9_feed_34 : decode cX9_feed 34 = .ok (.dup_x1, 1) := by decide +kernel
theorem dX9_feed_35 : decode cX9_feed 35 = .ok (.iconst 1, 1) := by decide +kernel
theorem dX9_feed_36 : decode cX9_feed 36 = .ok (.iadd, 1) := by decide +kernel
theorem dX9_feed_37 : decode cX9_feed 37 = .ok (.putfield 65, 3) := by decide +kernel
theorem dX9_feed_40 : decode cX9_feed 40 = .ok (.iload_n 1, 1) := by decide +kernel
theorem dX9_feed_41 : decode cX9_feed 41 = .ok (.iastore, 1) := by decide +kernel
theorem dX9_feed_42 : decode cX9_feed 42 = .ok (.aload_n 0, 1) := by decide +kernel
theorem dX9_feed_43 : decode cX9_feed 43 = .ok (.getfield 65, 3) := by decide +kernel
theorem dX9_feed_46 : decode cX9_feed 46 = .ok (.ireturn, 1) := by decide +kernel
theorem dX9_isFrom_0 : decode cX9_isFrom 0 = .ok (.aload_n 0, 1) := by decide +kernel
theorem dX9_isFrom_1 : decode cX9_isFrom 1 = .ok (.getfield 69, 3) := by decide +kernel
theorem dX9_isFrom_4 : decode cX9_isFrom 4 = .ok (.ifCond .ge 35, 3) := by decide +kernel
theorem dX9_isFrom_7 : decode cX9_isFrom 7 = .ok (.aload_n 0, 1) := by decide +kernel
theorem dX9_isFrom_8 : decode cX9_isFrom 8 = .ok (.getfield 72, 3) := by decide +kernel
theorem dX9_isFrom_11 : decode cX9_isFrom 11 = .ok (.aload_n 0, 1) := by decide +kernel
theorem dX9_isFrom_12 : decode cX9_isFrom 12 = .ok (.getfield 65, 3) := by decide +kernel
theorem dX9_isFrom_15 : decode cX9_isFrom 15 = .ok (.if_icmp .ge 24, 3) := by decide +kernel
theorem dX9_isFrom_18 : decode cX9_isFrom 18 = .ok (.aload_n 0, 1) := by decide +kernel
theorem dX9_isFrom_19 : decode cX9_isFrom 19 = .ok (.getfield 24, 3) := by decide +kernel
theorem dX9_isFrom_22 : decode cX9_isFrom 22 = .ok (.aload_n 0, 1) := by decide +kernel
theorem dX9_isFrom_23 : decode cX9_isFrom 23 = .ok (.getfield 72, 3) := by decide +kernel
theorem dX9_isFrom_26 : decode cX9_isFrom 26 = .ok (.iaload, 1) := by decide +kernel
theorem dX9_isFrom_27 : decode cX9_isFrom 27 = .ok (.iload_n 1, 1) := by decide +kernel
theorem dX9_isFrom_28 : decode cX9_isFrom 28 = .ok (.iload_n 2, 1) := by decide +kernel
theorem dX9_isFrom_29 : decode cX9_isFrom 29 = .ok (.invokestatic 46, 3) := by decide +kernel
theorem dX9_isFrom_32 : decode cX9_isFrom 32 = .ok (.ifCond .eq 7, 3) := by decide +kernel
theorem dX9_isFrom_35 : decode cX9_isFrom 35 = .ok (.iconst 1, 1) := by decide +kernel
theorem dX9_isFrom_36 : decode cX9_isFrom 36 = .ok (.goto 4, 3) := by decide +kernel
theorem dX9_isFrom_39 : decode cX9_isFrom 39 = .ok (.iconst 0, 1) := by decide +kernel
theorem dX9_isFrom_40 : decode cX9_isFrom 40 = .ok (.ireturn, 1) := by decide +kernel
theorem dX9_wrong_0 : decode cX9_wrong 0 = .ok (.aload_n 0, 1) := by decide +kernel
theorem dX9_wrong_1 : decode cX9_wrong 1 = .ok (.getfield 69, 3) := by decide +kernel
theorem dX9_wrong_4 : decode cX9_wrong 4 = .ok (.ifCond .ge 11, 3) := by decide +kernel
theorem dX9_wrong_7 : decode cX9_wrong 7 = .ok (.aload_n 0, 1) := by decide +kernel
theorem dX9_wrong_8 : decode cX9_wrong 8 = .ok (.aload_n 0, 1) := by decide +kernel
theorem dX9_wrong_9 : decode cX9_wrong 9 = .ok (.getfield 72, 3) := by decide +kernel
theorem dX9_wrong_12 : decode cX9_wrong 12 = .ok (.putfield 69, 3) := by decide +kernel
theorem dX9_wrong_15 : decode cX9_wrong 15 = .ok (.return_, 1) := by decide +kernel
theorem dX9_name_0 : decode cX9_name 0 = .ok (.iconst 0, 1) := by decide +kernel
theorem dX9_name_1 : decode cX9_name 1 = .ok (.istore_n 1, 1) := by decide +kernel
theorem dX9_name_2 : decode cX9_name 2 = .ok (.iconst 0, 1) := by decide +kernel
theorem dX9_name_3 : decode cX9_name 3 = .ok (.istore_n 2, 1) := by decide +kernel
theorem dX9_name_4 : decode cX9_name 4 = .ok (.iload_n 2, 1) := by decide +kernel
theorem dX9_name_5 : decode cX9_name 5 = .ok (.iconst 4, 1) := by decide +kernel
theorem dX9_name_6 : decode cX9_name 6 = .ok (.if_icmp .ge 50, 3) := by decide +kernel
theorem dX9_name_9 : decode cX9_name 9 = .ok (.aload_n 0, 1) := by decide +kernel
theorem dX9_name_10 : decode cX9_name 10 = .ok (.bipush 97, 2) := by decide +kernel
theorem dX9_name_12 : decode cX9_name 12 = .ok (.bipush 122, 2) := by decide +kernel
theorem dX9_name_14 : decode cX9_name 14 = .ok (.invokevirtual 75, 3) := by decide +kernel
theorem dX9_name_17 : decode cX9_name 17 = .ok (.ifCond .eq 39, 3) := by decide +kernel
theorem dX9_name_20 : decode cX9_name 20 = .ok (.bipush 27, 2) := by decide +kernel
theorem dX9_name_22 : decode cX9_name 22 = .ok (.iload_n 1, 1) := by decide +kernel
theorem dX9_name_23 : decode cX9_name 23 = .ok (.imul, 1) := by decide +kernel
theorem dX9_name_24 : decode cX9_name 24 = .ok (.aload_n 0, 1) := by decide +kernel
theorem dX9_name_25 : decode cX9_name 25 = .ok (.getfield 24, 3) := by decide +kernel
theorem dX9_name_28 : decode cX9_name 28 = .ok (.aload_n 0, 1) := by decide +kernel
theorem dX9_name_29 : decode cX9_name 29 = .ok (.getfield 72, 3) := by decide +kernel
theorem dX9_name_32 : decode cX9_name 32 = .ok (.iaload, 1) := by decide +kernel
theorem dX9_name_33 : decode cX9_name 33 = .ok (.iadd, 1) := by decide +kernel
theorem dX9_name_34 : decode cX9_name 34 = .ok (.bipush 97, 2) := by decide +kernel
theorem dX9_name_36 : decode cX9_name 36 = .ok (.isub, 1) := by decide +kernel
theorem dX9_name_37 : decode cX9_name 37 = .ok (.iconst 1, 1) := by decide +kernel
theorem dX9_name_38 : decode cX9_name 38 = .ok (.iadd, 1) := by decide +kernel
theorem dX9_name_39 : decode cX9_name 39 = .ok (.istore_n 1, 1) := by decide +kernel
theorem dX9_name_40 : decode cX9_name 40 = .ok (.aload_n 0, 1) := by decide +kernel
theorem dX9_name_41 : decode cX9_name 41 = .ok (.dup, 1) := by decide +kernel
theorem dX9_name_42 : decode cX9_name 42 = .ok (.getfield 72, 3) := by decide +kernel
theorem dX9_name_45 : decode cX9_name 45 = .ok (.iconst 1, 1) := by decide +kernel
theorem dX9_name_46 : decode cX9_name 46 = .ok (.iadd, 1) := by decide +kernel
theorem dX9_name_47 : decode cX9_name 47 = .ok (.putfield 72, 3) := by decide +kernel
theorem dX9_name_50 : decode cX9_name 50 = .ok (.iinc 2 1, 3) := by decide +kernel
theorem dX9_name_53 : decode cX9_name 53 = .ok (.goto (-49), 3) := by decide +kernel
theorem dX9_name_56 : decode cX9_name 56 = .ok (.iload_n 2, 1) := by decide +kernel
theorem dX9_name_57 : decode cX9_name 57 = .ok (.ifCond .ne 7, 3) := by decide +kernel
theorem dX9_name_60 : decode cX9_name 60 = .ok (.aload_n 0, 1) := by decide +kernel
theorem dX9_name_61 : decode cX9_name 61 = .ok (.invokevirtual 79, 3) := by decide +kernel
theorem dX9_name_64 : decode cX9_name 64 = .ok (.iload_n 2, 1) := by decide +kernel
theorem dX9_name_65 : decode cX9_name 65 = .ok (.istore_n 3, 1) := by decide +kernel
theorem dX9_name_66 : decode cX9_name 66 = .ok (.iload_n 3, 1) := by decide +kernel
theorem dX9_name_67 : decode cX9_name 67 = .ok (.iconst 4, 1) := by decide +kernel
theorem dX9_name_68 : decode cX9_name 68 = .ok (.if_icmp .ge 14, 3) := by decide +kernel
theorem dX9_name_71 : decode cX9_name 71 = .ok (.iload_n 1, 1) := by decide +kernel
theorem dX9_name_72 : decode cX9_name 72 = .ok (.bipush 27, 2) := by decide +kernel
theorem dX9_name_74 : decode cX9_name 74 = .ok (.imul, 1) := by decide +kernel
theorem dX9_name_75 : decode cX9_name 75 = .ok (.istore_n 1, 1) := by decide +kernel
theorem dX9_name_76 : decode cX9_name 76 = .ok (.iinc 3 1, 3) := by decide +kernel
theorem dX9_name_79 : decode cX9_name 79 = .ok (.goto (-13), 3) := by decide +kernel
theorem dX9_name_82 : decode cX9_name 82 = .ok (.iload_n 1, 1) := by decide +kernel
theorem dX9_name_83 : decode cX9_name 83 = .ok (.ireturn, 1) := by decide +kernel
theorem dX9_figure_0 : decode cX9_figure 0 = .ok (.aload_n 0, 1) := by decide +kernel
theorem dX9_figure_1 : decode cX9_figure 1 = .ok (.bipush 48, 2) := by decide +kernel
theorem dX9_figure_3 : decode cX9_figure 3 = .ok (.bipush 48, 2) := by decide +kernel
theorem dX9_figure_5 : decode cX9_figure 5 = .ok (.iload_n 1, 1) := by decide +kernel
theorem dX9_figure_6 : decode cX9_figure 6 = .ok (.iadd, 1) := by decide +kernel
theorem dX9_figure_7 : decode cX9_figure 7 = .ok (.invokevirtual 75, 3) := by decide +kernel
theorem dX9_figure_10 : decode cX9_figure 10 = .ok (.ifCond .ne 9, 3) := by decide +kernel
theorem dX9_figure_13 : decode cX9_figure 13 = .ok (.aload_n 0, 1) := by decide +kernel
theorem dX9_figure_14 : decode cX9_figure 14 = .ok (.invokevirtual 79, 3) := by decide +kernel
theorem dX9_figure_17 : decode cX9_figure 17 = .ok (.iconst 0, 1) := by decide +kernel
theorem dX9_figure_18 : decode cX9_figure 18 = .ok (.ireturn, 1) := by decide +kernel
theorem dX9_figure_19 : decode cX9_figure 19 = .ok (.aload_n 0, 1) := by decide +kernel
theorem dX9_figure_20 : decode cX9_figure 20 = .ok (.dup, 1) := by decide +kernel
theorem dX9_figure_21 : decode cX9_figure 21 = .ok (.getfield 72, 3) := by decide +kernel
theorem dX9_figure_24 : decode cX9_figure 24 = .ok (.iconst 1, 1) := by decide +kernel
theorem dX9_figure_25 : decode cX9_figure 25 = .ok (.iadd, 1) := by decide +kernel
theorem dX9_figure_26 : decode cX9_figure 26 = .ok (.putfield 72, 3) := by decide +kernel
theorem dX9_figure_29 : decode cX9_figure 29 = .ok (.aload_n 0, 1) := by decide +kernel
theorem dX9_figure_30 : decode cX9_figure 30 = .ok (.getfield 24, 3) := by decide +kernel
theorem dX9_figure_33 : decode cX9_figure 33 = .ok (.aload_n 0, 1) := by decide +kernel
theorem dX9_figure_34 : decode cX9_figure 34 = .ok (.getfield 72, 3) := by decide +kernel
theorem dX9_figure_37 : decode cX9_figure 37 = .ok (.iconst 1, 1) := by decide +kernel
theorem dX9_figure_38 : decode cX9_figure 38 = .ok (.isub, 1) := by decide +kernel
theorem dX9_figure_39 : decode cX9_figure 39 = .ok (.iaload, 1) := by decide +kernel
theorem dX9_figure_40 : decode cX9_figure 40 = .ok (.bipush 48, 2) := by decide +kernel
theorem dX9_figure_42 : decode cX9_figure 42 = .ok (.isub, 1) := by decide +kernel
theorem dX9_figure_43 : decode cX9_figure 43 = .ok (.ireturn, 1) := by decide +kernel
theorem dX9_readsBoat_0 : decode cX9_readsBoat 0 = .ok (.iconst 5, 1) := by decide +kernel
theorem dX9_readsBoat_1 : decode cX9_readsBoat 1 = .ok (.aload_n 0, 1) := by decide +kernel
theorem dX9_readsBoat_2 : decode cX9_readsBoat 2 = .ok (.getfield 82, 3) := by decide +kernel
theorem dX9_readsBoat_5 : decode cX9_readsBoat 5 = .ok (.imul, 1) := by decide +kernel
theorem dX9_readsBoat_6 : decode cX9_readsBoat 6 = .ok (.istore_n 1, 1) := by decide +kernel
theorem dX9_readsBoat_7 : decode cX9_readsBoat 7 = .ok (.aload_n 0, 1) := by decide +kernel
theorem dX9_readsBoat_8 : decode cX9_readsBoat 8 = .ok (.getfield 27, 3) := by decide +kernel
theorem dX9_readsBoat_11 : decode cX9_readsBoat 11 = .ok (.iload_n 1, 1) := by decide +kernel
theorem dX9_readsBoat_12 : decode cX9_readsBoat 12 = .ok (.aload_n 0, 1) := by decide +kernel
theorem dX9_readsBoat_13 : decode cX9_readsBoat 13 = .ok (.invokevirtual 85, 3) := by decide +kernel
theorem dX9_readsBoat_16 : decode cX9_readsBoat 16 = .ok (.iastore, 1) := by decide +kernel
theorem dX9_readsBoat_17 : decode cX9_readsBoat 17 = .ok (.aload_n 0, 1) := by decide +kernel
theorem dX9_readsBoat_18 : decode cX9_readsBoat 18 = .ok (.bipush 43, 2) := by decide +kernel
theorem dX9_readsBoat_20 : decode cX9_readsBoat 20 = .ok (.bipush 43, 2) := by decide +kernel
theorem dX9_readsBoat_22 : decode cX9_readsBoat 22 = .ok (.invokevirtual 75, 3) := by decide +kernel
theorem dX9_readsBoat_25 : decode cX9_readsBoat 25 = .ok (.ifCond .ne 18, 3) := by decide +kernel
theorem dX9_readsBoat_28 : decode cX9_readsBoat 28 = .ok (.aload_n 0, 1) := by decide +kernel
theorem dX9_readsBoat_29 : decode cX9_readsBoat 29 = .ok (.bipush 45, 2) := by decide +kernel
theorem dX9_readsBoat_31 : decode cX9_readsBoat 31 = .ok (.bipush 45, 2) := by decide +kernel
theorem dX9_readsBoat_33 : decode cX9_readsBoat 33 = .ok (.invokevirtual 75, 3) := by decide +kernel
theorem dX9_readsBoat_36 : decode cX9_readsBoat 36 = .ok (.ifCond .ne 7, 3) := by decide +kernel
theorem dX9_readsBoat_39 : decode cX9_readsBoat 39 = .ok (.aload_n 0, 1) := by decide +kernel
theorem dX9_readsBoat_40 : decode cX9_readsBoat 40 = .ok (.invokevirtual 79, 3) := by decide +kernel
theorem dX9_readsBoat_43 : decode cX9_readsBoat 43 = .ok (.aload_n 0, 1) := by decide +kernel
theorem dX9_readsBoat_44 : decode cX9_readsBoat 44 = .ok (.getfield 69, 3) := by decide +kernel
theorem dX9_readsBoat_47 : decode cX9_readsBoat 47 = .ok (.ifCond .lt 4, 3) := by decide +kernel
theorem dX9_readsBoat_50 : decode cX9_readsBoat 50 = .ok (.return_, 1) := by decide +kernel
theorem dX9_readsBoat_51 : decode cX9_readsBoat 51 = .ok (.aload_n 0, 1) := by decide +kernel
theorem dX9_readsBoat_52 : decode cX9_readsBoat 52 = .ok (.getfield 27, 3) := by decide +kernel
theorem dX9_readsBoat_55 : decode cX9_readsBoat 55 = .ok (.iload_n 1, 1) := by decide +kernel
theorem dX9_readsBoat_56 : decode cX9_readsBoat 56 = .ok (.iconst 3, 1) := by decide +kernel
theorem dX9_readsBoat_57 : decode cX9_readsBoat 57 = .ok (.iadd, 1) := by decide +kernel
theorem dX9_readsBoat_58 : decode cX9_readsBoat 58 = .ok (.aload_n 0, 1) := by decide +kernel
theorem dX9_readsBoat_59 : decode cX9_readsBoat 59 = .ok (.getfield 24, 3) := by decide +kernel
theorem dX9_readsBoat_62 : decode cX9_readsBoat 62 = .ok (.aload_n 0, 1) := by decide +kernel
theorem dX9_readsBoat_63 : decode cX9_readsBoat 63 = .ok (.getfield 72, 3) := by decide +kernel
theorem dX9_readsBoat_66 : decode cX9_readsBoat 66 = .ok (.iaload, 1) := by decide +kernel
theorem dX9_readsBoat_67 : decode cX9_readsBoat 67 = .ok (.bipush 43, 2) := by decide +kernel
theorem dX9_readsBoat_69 : decode cX9_readsBoat 69 = .ok (.if_icmp .ne 7, 3) := by decide +kernel
theorem dX9_readsBoat_72 : decode cX9_readsBoat 72 = .ok (.iconst 1, 1) := by decide +kernel
theorem dX9_readsBoat_73 : decode cX9_readsBoat 73 = .ok (.goto 4, 3) := by decide +kernel
theorem dX9_readsBoat_76 : decode cX9_readsBoat 76 = .ok (.iconst 0, 1) := by decide +kernel
theorem dX9_readsBoat_77 : decode cX9_readsBoat 77 = .ok (.iastore, 1) := by decide +kernel
theorem dX9_readsBoat_78 : decode cX9_readsBoat 78 = .ok (.aload_n 0, 1) := by decide +kernel
theorem dX9_readsBoat_79 : decode cX9_readsBoat 79 = .ok (.dup, 1) := by decide +kernel
theorem dX9_readsBoat_80 : decode cX9_readsBoat 80 = .ok (.getfield 72, 3) := by decide +kernel
theorem dX9_readsBoat_83 : decode cX9_readsBoat 83 = .ok (.iconst 1, 1) := by decide +kernel
theorem dX9_readsBoat_84 : decode cX9_readsBoat 84 = .ok (.iadd, 1) := by decide +kernel
theorem dX9_readsBoat_85 : decode cX9_readsBoat 85 = .ok (.putfield 72, 3) := by decide +kernel
theorem dX9_readsBoat_88 : decode cX9_readsBoat 88 = .ok (.aload_n 0, 1) := by decide +kernel
theorem dX9_readsBoat_89 : decode cX9_readsBoat 89 = .ok (.getfield 27, 3) := by decide +kernel
theorem dX9_readsBoat_92 : decode cX9_readsBoat 92 = .ok (.iload_n 1, 1) := by decide +kernel
theorem dX9_readsBoat_93 : decode cX9_readsBoat 93 = .ok (.iconst 1, 1) := by decide +kernel
theorem dX9_readsBoat_94 : decode cX9_readsBoat 94 = .ok (.iadd, 1) := by decide +kernel
theorem dX9_readsBoat_95 : decode cX9_readsBoat 95 = .ok (.aload_n 0, 1) := by decide +kernel
theorem dX9_readsBoat_96 : decode cX9_readsBoat 96 = .ok (.bipush 9, 2) := by decide +kernel
theorem dX9_readsBoat_98 : decode cX9_readsBoat 98 = .ok (.invokevirtual 89, 3) := by decide +kernel
theorem dX9_readsBoat_101 : decode cX9_readsBoat 101 = .ok (.iastore, 1) := by decide +kernel
theorem dX9_readsBoat_102 : decode cX9_readsBoat 102 = .ok (.aload_n 0, 1) := by decide +kernel
theorem dX9_readsBoat_103 : decode cX9_readsBoat 103 = .ok (.getfield 27, 3) := by decide +kernel
theorem dX9_readsBoat_106 : decode cX9_readsBoat 106 = .ok (.iload_n 1, 1) := by decide +kernel
theorem dX9_readsBoat_107 : decode cX9_readsBoat 107 = .ok (.iconst 2, 1) := by decide +kernel
theorem dX9_readsBoat_108 : decode cX9_readsBoat 108 = .ok (.iadd, 1) := by decide +kernel
theorem dX9_readsBoat_109 : decode cX9_readsBoat 109 = .ok (.aload_n 0, 1) := by decide +kernel
theorem dX9_readsBoat_110 : decode cX9_readsBoat 110 = .ok (.bipush 9, 2) := by decide +kernel
theorem dX9_readsBoat_112 : decode cX9_readsBoat 112 = .ok (.invokevirtual 89, 3) := by decide +kernel
theorem dX9_readsBoat_115 : decode cX9_readsBoat 115 = .ok (.iastore, 1) := by decide +kernel
theorem dX9_readsBoat_116 : decode cX9_readsBoat 116 = .ok (.aload_n 0, 1) := by decide +kernel
theorem dX9_readsBoat_117 : decode cX9_readsBoat 117 = .ok (.getfield 27, 3) := by decide +kernel
theorem dX9_readsBoat_120 : decode cX9_readsBoat 120 = .ok (.iload_n 1, 1) := by decide +kernel
theorem dX9_readsBoat_121 : decode cX9_readsBoat 121 = .ok (.iconst 4, 1) := by decide +kernel
theorem dX9_readsBoat_122 : decode cX9_readsBoat 122 = .ok (.iadd, 1) := by decide +kernel
theorem dX9_readsBoat_123 : decode cX9_readsBoat 123 = .ok (.aload_n 0, 1) := by decide +kernel
theorem dX9_readsBoat_124 : decode cX9_readsBoat 124 = .ok (.aload_n 0, 1) := by decide +kernel
theorem dX9_readsBoat_125 : decode cX9_readsBoat 125 = .ok (.getfield 9, 3) := by decide +kernel
theorem dX9_readsBoat_128 : decode cX9_readsBoat 128 = .ok (.bipush 53, 2) := by decide +kernel
theorem dX9_readsBoat_130 : decode cX9_readsBoat 130 = .ok (.iaload, 1) := by decide +kernel
theorem dX9_readsBoat_131 : decode cX9_readsBoat 131 = .ok (.invokevirtual 89, 3) := by decide +kernel
theorem dX9_readsBoat_134 : decode cX9_readsBoat 134 = .ok (.iastore, 1) := by decide +kernel
theorem dX9_readsBoat_135 : decode cX9_readsBoat 135 = .ok (.aload_n 0, 1) := by decide +kernel
theorem dX9_readsBoat_136 : decode cX9_readsBoat 136 = .ok (.dup, 1) := by decide +kernel
theorem dX9_readsBoat_137 : decode cX9_readsBoat 137 = .ok (.getfield 82, 3) := by decide +kernel
theorem dX9_readsBoat_140 : decode cX9_readsBoat 140 = .ok (.iconst 1, 1) := by decide +kernel
theorem dX9_readsBoat_141 : decode cX9_readsBoat 141 = .ok (.iadd, 1) := by decide +kernel
theorem dX9_readsBoat_142 : decode cX9_readsBoat 142 = .ok (.putfield 82, 3) := by decide +kernel
theorem dX9_readsBoat_145 : decode cX9_readsBoat 145 = .ok (.return_, 1) := by decide +kernel
theorem dX9_where_0 : decode cX9_where 0 = .ok (.iconst 0, 1) := by decide +kernel
theorem dX9_where_1 : decode cX9_where 1 = .ok (.istore_n 2, 1) := by decide +kernel
theorem dX9_where_2 : decode cX9_where 2 = .ok (.iload_n 2, 1) := by decide +kernel
theorem dX9_where_3 : decode cX9_where 3 = .ok (.aload_n 0, 1) := by decide +kernel
theorem dX9_where_4 : decode cX9_where 4 = .ok (.getfield 9, 3) := by decide +kernel
theorem dX9_where_7 : decode cX9_where 7 = .ok (.bipush 114, 2) := by decide +kernel
theorem dX9_where_9 : decode cX9_where 9 = .ok (.iaload, 1) := by decide +kernel
theorem dX9_where_10 : decode cX9_where 10 = .ok (.if_icmp .ge 22, 3) := by decide +kernel
theorem dX9_where_13 : decode cX9_where 13 = .ok (.aload_n 0, 1) := by decide +kernel
theorem dX9_where_14 : decode cX9_where 14 = .ok (.getfield 9, 3) := by decide +kernel
theorem dX9_where_17 : decode cX9_where 17 = .ok (.bipush 54, 2) := by decide +kernel
theorem dX9_where_19 : decode cX9_where 19 = .ok (.iload_n 2, 1) := by decide +kernel
theorem dX9_where_20 : decode cX9_where 20 = .ok (.iadd, 1) := by decide +kernel
theorem dX9_where_21 : decode cX9_where 21 = .ok (.iaload, 1) := by decide +kernel
theorem dX9_where_22 : decode cX9_where 22 = .ok (.iload_n 1, 1) := by decide +kernel
theorem dX9_where_23 : decode cX9_where 23 = .ok (.if_icmp .ge 9, 3) := by decide +kernel
theorem dX9_where_26 : decode cX9_where 26 = .ok (.iinc 2 1, 3) := by decide +kernel
theorem dX9_where_29 : decode cX9_where 29 = .ok (.goto (-27), 3) := by decide +kernel
theorem dX9_where_32 : decode cX9_where 32 = .ok (.iload_n 2, 1) := by decide +kernel
theorem dX9_where_33 : decode cX9_where 33 = .ok (.ireturn, 1) := by decide +kernel
theorem dX9_isThere_0 : decode cX9_isThere 0 = .ok (.iload_n 1, 1) := by decide +kernel
theorem dX9_isThere_1 : decode cX9_isThere 1 = .ok (.aload_n 0, 1) := by decide +kernel
theorem dX9_isThere_2 : decode cX9_isThere 2 = .ok (.getfield 9, 3) := by decide +kernel
theorem dX9_isThere_5 : decode cX9_isThere 5 = .ok (.bipush 114, 2) := by decide +kernel
theorem dX9_isThere_7 : decode cX9_isThere 7 = .ok (.iaload, 1) := by decide +kernel
theorem dX9_isThere_8 : decode cX9_isThere 8 = .ok (.if_icmp .ge 20, 3) := by decide +kernel
theorem dX9_isThere_11 : decode cX9_isThere 11 = .ok (.aload_n 0, 1) := by decide +kernel
theorem dX9_isThere_12 : decode cX9_isThere 12 = .ok (.getfield 9, 3) := by decide +kernel
theorem dX9_isThere_15 : decode cX9_isThere 15 = .ok (.bipush 54, 2) := by decide +kernel
theorem dX9_isThere_17 : decode cX9_isThere 17 = .ok (.iload_n 1, 1) := by decide +kernel
theorem dX9_isThere_18 : decode cX9_isThere 18 = .ok (.iadd, 1) := by decide +kernel
theorem dX9_isThere_19 : decode cX9_isThere 19 = .ok (.iaload, 1) := by decide +kernel
theorem dX9_isThere_20 : decode cX9_isThere 20 = .ok (.iload_n 2, 1) := by decide +kernel
theorem dX9_isThere_21 : decode cX9_isThere 21 = .ok (.if_icmp .ne 7, 3) := by decide +kernel
theorem dX9_isThere_24 : decode cX9_isThere 24 = .ok (.iconst 1, 1) := by decide +kernel
theorem dX9_isThere_25 : decode cX9_isThere 25 = .ok (.goto 4, 3) := by decide +kernel
theorem dX9_isThere_28 : decode cX9_isThere 28 = .ok (.iconst 0, 1) := by decide +kernel
theorem dX9_isThere_29 : decode cX9_isThere 29 = .ok (.ireturn, 1) := by decide +kernel
theorem dX9_shifts_0 : decode cX9_shifts 0 = .ok (.iconst 0, 1) := by decide +kernel
theorem dX9_shifts_1 : decode cX9_shifts 1 = .ok (.istore_n 3, 1) := by decide +kernel
theorem dX9_shifts_2 : decode cX9_shifts 2 = .ok (.iload_n 3, 1) := by decide +kernel
theorem dX9_shifts_3 : decode cX9_shifts 3 = .ok (.iconst 5, 1) := by decide +kernel
theorem dX9_shifts_4 : decode cX9_shifts 4 = .ok (.if_icmp .ge 37, 3) := by decide +kernel
theorem dX9_shifts_7 : decode cX9_shifts 7 = .ok (.aload_n 0, 1) := by decide +kernel
theorem dX9_shifts_8 : decode cX9_shifts 8 = .ok (.getfield 9, 3) := by decide +kernel
theorem dX9_shifts_11 : decode cX9_shifts 11 = .ok (.bipush 54, 2) := by decide +kernel
theorem dX9_shifts_13 : decode cX9_shifts 13 = .ok (.bipush 12, 2) := by decide +kernel
theorem dX9_shifts_15 : decode cX9_shifts 15 = .ok (.iload_n 3, 1) := by decide +kernel
theorem dX9_shifts_16 : decode cX9_shifts 16 = .ok (.imul, 1) := by decide +kernel
theorem dX9_shifts_17 : decode cX9_shifts 17 = .ok (.iadd, 1) := by decide +kernel
theorem dX9_shifts_18 : decode cX9_shifts 18 = .ok (.iload_n 2, 1) := by decide +kernel
theorem dX9_shifts_19 : decode cX9_shifts 19 = .ok (.iadd, 1) := by decide +kernel
theorem dX9_shifts_20 : decode cX9_shifts 20 = .ok (.aload_n 0, 1) := by decide +kernel
theorem dX9_shifts_21 : decode cX9_shifts 21 = .ok (.getfield 9, 3) := by decide +kernel
theorem dX9_shifts_24 : decode cX9_shifts 24 = .ok (.bipush 54, 2) := by decide +kernel
theorem dX9_shifts_26 : decode cX9_shifts 26 = .ok (.bipush 12, 2) := by decide +kernel
theorem dX9_shifts_28 : decode cX9_shifts 28 = .ok (.iload_n 3, 1) := by decide +kernel
theorem dX9_shifts_29 : decode cX9_shifts 29 = .ok (.imul, 1) := by decide +kernel
theorem dX9_shifts_30 : decode cX9_shifts 30 = .ok (.iadd, 1) := by decide +kernel
theorem dX9_shifts_31 : decode cX9_shifts 31 = .ok (.iload_n 1, 1) := by decide +kernel
theorem dX9_shifts_32 : decode cX9_shifts 32 = .ok (.iadd, 1) := by decide +kernel
theorem dX9_shifts_33 : decode cX9_shifts 33 = .ok (.iaload, 1) := by decide +kernel
theorem dX9_shifts_34 : decode cX9_shifts 34 = .ok (.iastore, 1) := by decide +kernel
theorem dX9_shifts_35 : decode cX9_shifts 35 = .ok (.iinc 3 1, 3) := by decide +kernel
theorem dX9_shifts_38 : decode cX9_shifts 38 = .ok (.goto (-36), 3) := by decide +kernel
theorem dX9_shifts_41 : decode cX9_shifts 41 = .ok (.return_, 1) := by decide +kernel
theorem dX9_comes_0 : decode cX9_comes 0 = .ok (.aload_n 0, 1) := by decide +kernel
theorem dX9_comes_1 : decode cX9_comes 1 = .ok (.aload_n 0, 1) := by decide +kernel
theorem dX9_comes_2 : decode cX9_comes 2 = .ok (.getfield 27, 3) := by decide +kernel
theorem dX9_comes_5 : decode cX9_comes 5 = .ok (.iconst 5, 1) := by decide +kernel
theorem dX9_comes_6 : decode cX9_comes 6 = .ok (.iload_n 1, 1) := by decide +kernel
theorem dX9_comes_7 : decode cX9_comes 7 = .ok (.imul, 1) := by decide +kernel
theorem dX9_comes_8 : decode cX9_comes 8 = .ok (.iaload, 1) := by decide +kernel
theorem dX9_comes_9 : decode cX9_comes 9 = .ok (.invokevirtual 92, 3) := by decide +kernel
theorem dX9_comes_12 : decode cX9_comes 12 = .ok (.istore_n 2, 1) := by decide +kernel
theorem dX9_comes_13 : decode cX9_comes 13 = .ok (.aload_n 0, 1) := by decide +kernel
theorem dX9_comes_14 : decode cX9_comes 14 = .ok (.iload_n 2, 1) := by decide +kernel
theorem dX9_comes_15 : decode cX9_comes 15 = .ok (.aload_n 0, 1) := by decide +kernel
theorem dX9_comes_16 : decode cX9_comes 16 = .ok (.getfield 27, 3) := by decide +kernel
theorem dX9_comes_19 : decode cX9_comes 19 = .ok (.iconst 5, 1) := by decide +kernel
theorem dX9_comes_20 : decode cX9_comes 20 = .ok (.iload_n 1, 1) := by decide +kernel
theorem dX9_comes_21 : decode cX9_comes 21 = .ok (.imul, 1) := by decide +kernel
theorem dX9_comes_22 : decode cX9_comes 22 = .ok (.iaload, 1) := by decide +kernel
theorem dX9_comes_23 : decode cX9_comes 23 = .ok (.invokevirtual 95, 3) := by decide +kernel
theorem dX9_comes_26 : decode cX9_comes 26 = .ok (.ifCond .ne 55, 3) := by decide +kernel
theorem dX9_comes_29 : decode cX9_comes 29 = .ok (.aload_n 0, 1) := by decide +kernel
theorem dX9_comes_30 : decode cX9_comes 30 = .ok (.getfield 9, 3) := by decide +kernel
theorem dX9_comes_33 : decode cX9_comes 33 = .ok (.bipush 114, 2) := by decide +kernel
theorem dX9_comes_35 : decode cX9_comes 35 = .ok (.iaload, 1) := by decide +kernel
theorem dX9_comes_36 : decode cX9_comes 36 = .ok (.bipush 12, 2) := by decide +kernel
theorem dX9_comes_38 : decode cX9_comes 38 = .ok (.if_icmp .ne 5, 3) := by decide +kernel
theorem dX9_comes_41 : decode cX9_comes 41 = .ok (.iconst 0, 1) := by decide +kernel
theorem dX9_comes_42 : decode cX9_comes 42 = .ok (.ireturn, 1) := by decide +kernel
theorem dX9_comes_43 : decode cX9_comes 43 = .ok (.aload_n 0, 1) := by decide +kernel
theorem dX9_comes_44 : decode cX9_comes 44 = .ok (.getfield 9, 3) := by decide +kernel
theorem dX9_comes_47 : decode cX9_comes 47 = .ok (.bipush 114, 2) := by decide +kernel
theorem dX9_comes_49 : decode cX9_comes 49 = .ok (.iaload, 1) := by decide +kernel
theorem dX9_comes_50 : decode cX9_comes 50 = .ok (.istore_n 3, 1) := by decide +kernel
theorem dX9_comes_51 : decode cX9_comes 51 = .ok (.iload_n 3, 1) := by decide +kernel
theorem dX9_comes_52 : decode cX9_comes 52 = .ok (.iload_n 2, 1) := by decide +kernel
theorem dX9_comes_53 : decode cX9_comes 53 = .ok (.if_icmp .le 17, 3) := by decide +kernel
theorem dX9_comes_56 : decode cX9_comes 56 = .ok (.aload_n 0, 1) := by decide +kernel
theorem dX9_comes_57 : decode cX9_comes 57 = .ok (.iload_n 3, 1) := by decide +kernel
theorem dX9_comes_58 : decode cX9_comes 58 = .ok (.iconst 1, 1) := by decide +kernel
theorem dX9_comes_59 : decode cX9_comes 59 = .ok (.isub, 1) := by decide +kernel
theorem dX9_comes_60 : decode cX9_comes 60 = .ok (.iload_n 3, 1) := by decide +kernel
theorem dX9_comes_61 : decode cX9_comes 61 = .ok (.invokevirtual 98, 3) := by decide +kernel
theorem dX9_comes_64 : decode cX9_comes 64 = .ok (.iinc 3 (-1), 3) := by decide +kernel
theorem dX9_comes_67 : decode cX9_comes 67 = .ok (.goto (-16), 3) := by decide +kernel
theorem dX9_comes_70 : decode cX9_comes 70 = .ok (.aload_n 0, 1) := by decide +kernel
theorem dX9_comes_71 : decode cX9_comes 71 = .ok (.getfield 9, 3) := by decide +kernel
theorem dX9_comes_74 : decode cX9_comes 74 = .ok (.bipush 114, 2) := by decide +kernel
theorem dX9_comes_76 : decode cX9_comes 76 = .ok (.dup2, 1) := by decide +kernel
theorem dX9_comes_77 : decode cX9_comes 77 = .ok (.iaload, 1) := by decide +kernel
theorem dX9_comes_78 : decode cX9_comes 78 = .ok (.iconst 1, 1) := by decide +kernel
theorem dX9_comes_79 : decode cX9_comes 79 = .ok (.iadd, 1) := by decide +kernel
theorem dX9_comes_80 : decode cX9_comes 80 = .ok (.iastore, 1) := by decide +kernel
theorem dX9_comes_81 : decode cX9_comes 81 = .ok (.iconst 0, 1) := by decide +kernel
theorem dX9_comes_82 : decode cX9_comes 82 = .ok (.istore_n 3, 1) := by decide +kernel
theorem dX9_comes_83 : decode cX9_comes 83 = .ok (.iload_n 3, 1) := by decide +kernel
theorem dX9_comes_84 : decode cX9_comes 84 = .ok (.iconst 5, 1) := by decide +kernel
theorem dX9_comes_85 : decode cX9_comes 85 = .ok (.if_icmp .ge 33, 3) := by decide +kernel
theorem dX9_comes_88 : decode cX9_comes 88 = .ok (.aload_n 0, 1) := by decide +kernel
theorem dX9_comes_89 : decode cX9_comes 89 = .ok (.getfield 9, 3) := by decide +kernel
theorem dX9_comes_92 : decode cX9_comes 92 = .ok (.bipush 54, 2) := by decide +kernel
theorem dX9_comes_94 : decode cX9_comes 94 = .ok (.bipush 12, 2) := by decide +kernel
theorem dX9_comes_96 : decode cX9_comes 96 = .ok (.iload_n 3, 1) := by decide +kernel
theorem dX9_comes_97 : decode cX9_comes 97 = .ok (.imul, 1) := by decide +kernel
theorem dX9_comes_98 : decode cX9_comes 98 = .ok (.iadd, 1) := by decide +kernel
theorem dX9_comes_99 : decode cX9_comes 99 = .ok (.iload_n 2, 1) := by decide +kernel
theorem dX9_comes_100 : decode cX9_comes 100 = .ok (.iadd, 1) := by decide +kernel
theorem dX9_comes_101 : decode cX9_comes 101 = .ok (.aload_n 0, 1) := by decide +kernel
theorem dX9_comes_102 : decode cX9_comes 102 = .ok (.getfield 27, 3) := by decide +kernel
theorem dX9_comes_105 : decode cX9_comes 105 = .ok (.iconst 5, 1) := by decide +kernel
theorem dX9_comes_106 : decode cX9_comes 106 = .ok (.iload_n 1, 1) := by decide +kernel
theorem dX9_comes_107 : decode cX9_comes 107 = .ok (.imul, 1) := by decide +kernel
theorem dX9_comes_108 : decode cX9_comes 108 = .ok (.iload_n 3, 1) := by decide +kernel
theorem dX9_comes_109 : decode cX9_comes 109 = .ok (.iadd, 1) := by decide +kernel
theorem dX9_comes_110 : decode cX9_comes 110 = .ok (.iaload, 1) := by decide +kernel
theorem dX9_comes_111 : decode cX9_comes 111 = .ok (.iastore, 1) := by decide +kernel
theorem dX9_comes_112 : decode cX9_comes 112 = .ok (.iinc 3 1, 3) := by decide +kernel
theorem dX9_comes_115 : decode cX9_comes 115 = .ok (.goto (-32), 3) := by decide +kernel
theorem dX9_comes_118 : decode cX9_comes 118 = .ok (.iconst 1, 1) := by decide +kernel
theorem dX9_comes_119 : decode cX9_comes 119 = .ok (.ireturn, 1) := by decide +kernel
theorem dX9_boats_0 : decode cX9_boats 0 = .ok (.aload_n 0, 1) := by decide +kernel
theorem dX9_boats_1 : decode cX9_boats 1 = .ok (.iconst 0, 1) := by decide +kernel
theorem dX9_boats_2 : decode cX9_boats 2 = .ok (.putfield 72, 3) := by decide +kernel
theorem dX9_boats_5 : decode cX9_boats 5 = .ok (.aload_n 0, 1) := by decide +kernel
theorem dX9_boats_6 : decode cX9_boats 6 = .ok (.iconst (-1), 1) := by decide +kernel
theorem dX9_boats_7 : decode cX9_boats 7 = .ok (.putfield 69, 3) := by decide +kernel
theorem dX9_boats_10 : decode cX9_boats 10 = .ok (.aload_n 0, 1) := by decide +kernel
theorem dX9_boats_11 : decode cX9_boats 11 = .ok (.iconst 0, 1) := by decide +kernel
theorem dX9_boats_12 : decode cX9_boats 12 = .ok (.putfield 82, 3) := by decide +kernel
theorem dX9_boats_15 : decode cX9_boats 15 = .ok (.aload_n 0, 1) := by decide +kernel
theorem dX9_boats_16 : decode cX9_boats 16 = .ok (.invokevirtual 102, 3) := by decide +kernel
theorem dX9_boats_19 : decode cX9_boats 19 = .ok (.aload_n 0, 1) := by decide +kernel
theorem dX9_boats_20 : decode cX9_boats 20 = .ok (.bipush 44, 2) := by decide +kernel
theorem dX9_boats_22 : decode cX9_boats 22 = .ok (.bipush 44, 2) := by decide +kernel
theorem dX9_boats_24 : decode cX9_boats 24 = .ok (.invokevirtual 75, 3) := by decide +kernel
theorem dX9_boats_27 : decode cX9_boats 27 = .ok (.ifCond .eq 20, 3) := by decide +kernel
theorem dX9_boats_30 : decode cX9_boats 30 = .ok (.aload_n 0, 1) := by decide +kernel
theorem dX9_boats_31 : decode cX9_boats 31 = .ok (.dup, 1) := by decide +kernel
theorem dX9_boats_32 : decode cX9_boats 32 = .ok (.getfield 72, 3) := by decide +kernel
theorem dX9_boats_35 : decode cX9_boats 35 = .ok (.iconst 1, 1) := by decide +kernel
theorem dX9_boats_36 : decode cX9_boats 36 = .ok (.iadd, 1) := by decide +kernel
theorem dX9_boats_37 : decode cX9_boats 37 = .ok (.putfield 72, 3) := by decide +kernel
theorem dX9_boats_40 : decode cX9_boats 40 = .ok (.aload_n 0, 1) := by decide +kernel
theorem dX9_boats_41 : decode cX9_boats 41 = .ok (.invokevirtual 102, 3) := by decide +kernel
theorem dX9_boats_44 : decode cX9_boats 44 = .ok (.goto (-25), 3) := by decide +kernel
theorem dX9_boats_47 : decode cX9_boats 47 = .ok (.aload_n 0, 1) := by decide +kernel
theorem dX9_boats_48 : decode cX9_boats 48 = .ok (.getfield 69, 3) := by decide +kernel
theorem dX9_boats_51 : decode cX9_boats 51 = .ok (.ifCond .ge 18, 3) := by decide +kernel
theorem dX9_boats_54 : decode cX9_boats 54 = .ok (.aload_n 0, 1) := by decide +kernel
theorem dX9_boats_55 : decode cX9_boats 55 = .ok (.getfield 72, 3) := by decide +kernel
theorem dX9_boats_58 : decode cX9_boats 58 = .ok (.aload_n 0, 1) := by decide +kernel
theorem dX9_boats_59 : decode cX9_boats 59 = .ok (.getfield 65, 3) := by decide +kernel
theorem dX9_boats_62 : decode cX9_boats 62 = .ok (.if_icmp .ge 7, 3) := by decide +kernel
theorem dX9_boats_65 : decode cX9_boats 65 = .ok (.aload_n 0, 1) := by decide +kernel
theorem dX9_boats_66 : decode cX9_boats 66 = .ok (.invokevirtual 79, 3) := by decide +kernel
theorem dX9_boats_69 : decode cX9_boats 69 = .ok (.aload_n 0, 1) := by decide +kernel
theorem dX9_boats_70 : decode cX9_boats 70 = .ok (.iconst 0, 1) := by decide +kernel
theorem dX9_boats_71 : decode cX9_boats 71 = .ok (.putfield 65, 3) := by decide +kernel
theorem dX9_boats_74 : decode cX9_boats 74 = .ok (.aload_n 0, 1) := by decide +kernel
theorem dX9_boats_75 : decode cX9_boats 75 = .ok (.getfield 69, 3) := by decide +kernel
theorem dX9_boats_78 : decode cX9_boats 78 = .ok (.ifCond .lt 11, 3) := by decide +kernel
theorem dX9_boats_81 : decode cX9_boats 81 = .ok (.bipush (-100), 2) := by decide +kernel
theorem dX9_boats_83 : decode cX9_boats 83 = .ok (.aload_n 0, 1) := by decide +kernel
theorem dX9_boats_84 : decode cX9_boats 84 = .ok (.getfield 69, 3) := by decide +kernel
theorem dX9_boats_87 : decode cX9_boats 87 = .ok (.isub, 1) := by decide +kernel
theorem dX9_boats_88 : decode cX9_boats 88 = .ok (.ireturn, 1) := by decide +kernel
theorem dX9_boats_89 : decode cX9_boats 89 = .ok (.aload_n 0, 1) := by decide +kernel
theorem dX9_boats_90 : decode cX9_boats 90 = .ok (.getfield 9, 3) := by decide +kernel
theorem dX9_boats_93 : decode cX9_boats 93 = .ok (.aload_n 0, 1) := by decide +kernel
theorem dX9_boats_94 : decode cX9_boats 94 = .ok (.getfield 18, 3) := by decide +kernel
theorem dX9_boats_97 : decode cX9_boats 97 = .ok (.invokestatic 105, 3) := by decide +kernel
theorem dX9_boats_100 : decode cX9_boats 100 = .ok (.iconst 0, 1) := by decide +kernel
theorem dX9_boats_101 : decode cX9_boats 101 = .ok (.istore_n 1, 1) := by decide +kernel
theorem dX9_boats_102 : decode cX9_boats 102 = .ok (.iload_n 1, 1) := by decide +kernel
theorem dX9_boats_103 : decode cX9_boats 103 = .ok (.aload_n 0, 1) := by decide +kernel
theorem dX9_boats_104 : decode cX9_boats 104 = .ok (.getfield 82, 3) := by decide +kernel
theorem dX9_boats_107 : decode cX9_boats 107 = .ok (.if_icmp .ge 31, 3) := by decide +kernel
theorem dX9_boats_110 : decode cX9_boats 110 = .ok (.aload_n 0, 1) := by decide +kernel
theorem dX9_boats_111 : decode cX9_boats 111 = .ok (.iload_n 1, 1) := by decide +kernel
theorem dX9_boats_112 : decode cX9_boats 112 = .ok (.invokevirtual 109, 3) := by decide +kernel
theorem dX9_boats_115 : decode cX9_boats 115 = .ok (.ifCond .ne 17, 3) := by decide +kernel
theorem dX9_boats_118 : decode cX9_boats 118 = .ok (.aload_n 0, 1) := by decide +kernel
theorem dX9_boats_119 : decode cX9_boats 119 = .ok (.getfield 18, 3) := by decide +kernel
theorem dX9_boats_122 : decode cX9_boats 122 = .ok (.aload_n 0, 1) := by decide +kernel
theorem dX9_boats_123 : decode cX9_boats 123 = .ok (.getfield 9, 3) := by decide +kernel
theorem dX9_boats_126 : decode cX9_boats 126 = .ok (.invokestatic 105, 3) := by decide +kernel
theorem dX9_boats_129 : decode cX9_boats 129 = .ok (.bipush (-3), 2) := by decide +kernel
theorem dX9_boats_131 : decode cX9_boats 131 = .ok (.ireturn, 1) := by decide +kernel
theorem dX9_boats_132 : decode cX9_boats 132 = .ok (.iinc 1 1, 3) := by decide +kernel
theorem dX9_boats_135 : decode cX9_boats 135 = .ok (.goto (-33), 3) := by decide +kernel
theorem dX9_boats_138 : decode cX9_boats 138 = .ok (.aload_n 0, 1) := by decide +kernel
theorem dX9_boats_139 : decode cX9_boats 139 = .ok (.getfield 82, 3) := by decide +kernel
theorem dX9_boats_142 : decode cX9_boats 142 = .ok (.ireturn, 1) := by decide +kernel
theorem dX9_letter_0 : decode cX9_letter 0 = .ok (.iload_n 0, 1) := by decide +kernel
theorem dX9_letter_1 : decode cX9_letter 1 = .ok (.istore_n 2, 1) := by decide +kernel
theorem dX9_letter_2 : decode cX9_letter 2 = .ok (.iconst 3, 1) := by decide +kernel
theorem dX9_letter_3 : decode cX9_letter 3 = .ok (.istore_n 3, 1) := by decide +kernel
theorem dX9_letter_4 : decode cX9_letter 4 = .ok (.iload_n 3, 1) := by decide +kernel
theorem dX9_letter_5 : decode cX9_letter 5 = .ok (.iload_n 1, 1) := by decide +kernel
theorem dX9_letter_6 : decode cX9_letter 6 = .ok (.if_icmp .le 14, 3) := by decide +kernel
theorem dX9_letter_9 : decode cX9_letter 9 = .ok (.iload_n 2, 1) := by decide +kernel
theorem dX9_letter_10 : decode cX9_letter 10 = .ok (.bipush 27, 2) := by decide +kernel
theorem dX9_letter_12 : decode cX9_letter 12 = .ok (.idiv, 1) := by decide +kernel
theorem dX9_letter_13 : decode cX9_letter 13 = .ok (.istore_n 2, 1) := by decide +kernel
theorem dX9_letter_14 : decode cX9_letter 14 = .ok (.iinc 3 (-1), 3) := by decide +kernel
theorem dX9_letter_17 : decode cX9_letter 17 = .ok (.goto (-13), 3) := by decide +kernel
theorem dX9_letter_20 : decode cX9_letter 20 = .ok (.iload_n 2, 1) := by decide +kernel
theorem dX9_letter_21 : decode cX9_letter 21 = .ok (.bipush 27, 2) := by decide +kernel
theorem dX9_letter_23 : decode cX9_letter 23 = .ok (.irem, 1) := by decide +kernel
theorem dX9_letter_24 : decode cX9_letter 24 = .ok (.ireturn, 1) := by decide +kernel
theorem dX9_boat_0 : decode cX9_boat 0 = .ok (.aload_n 0, 1) := by decide +kernel
theorem dX9_boat_1 : decode cX9_boat 1 = .ok (.iload_n 1, 1) := by decide +kernel
theorem dX9_boat_2 : decode cX9_boat 2 = .ok (.invokevirtual 112, 3) := by decide +kernel
theorem dX9_boat_5 : decode cX9_boat 5 = .ok (.ifCond .eq 18, 3) := by decide +kernel
theorem dX9_boat_8 : decode cX9_boat 8 = .ok (.iload_n 2, 1) := by decide +kernel
theorem dX9_boat_9 : decode cX9_boat 9 = .ok (.ifCond .lt 14, 3) := by decide +kernel
theorem dX9_boat_12 : decode cX9_boat 12 = .ok (.iload_n 2, 1) := by decide +kernel
theorem dX9_boat_13 : decode cX9_boat 13 = .ok (.iconst 4, 1) := by decide +kernel
theorem dX9_boat_14 : decode cX9_boat 14 = .ok (.if_icmp .le 11, 3) := by decide +kernel
theorem dX9_boat_17 : decode cX9_boat 17 = .ok (.iload_n 2, 1) := by decide +kernel
theorem dX9_boat_18 : decode cX9_boat 18 = .ok (.bipush 10, 2) := by decide +kernel
theorem dX9_boat_20 : decode cX9_boat 20 = .ok (.if_icmp .ge 5, 3) := by decide +kernel
theorem dX9_boat_23 : decode cX9_boat 23 = .ok (.iconst (-1), 1) := by decide +kernel
theorem dX9_boat_24 : decode cX9_boat 24 = .ok (.ireturn, 1) := by decide +kernel
theorem dX9_boat_25 : decode cX9_boat 25 = .ok (.aload_n 0, 1) := by decide +kernel
theorem dX9_boat_26 : decode cX9_boat 26 = .ok (.getfield 9, 3) := by decide +kernel
theorem dX9_boat_29 : decode cX9_boat 29 = .ok (.bipush 54, 2) := by decide +kernel
theorem dX9_boat_31 : decode cX9_boat 31 = .ok (.iload_n 1, 1) := by decide +kernel
theorem dX9_boat_32 : decode cX9_boat 32 = .ok (.iadd, 1) := by decide +kernel
theorem dX9_boat_33 : decode cX9_boat 33 = .ok (.iaload, 1) := by decide +kernel
theorem dX9_boat_34 : decode cX9_boat 34 = .ok (.istore_n 3, 1) := by decide +kernel
theorem dX9_boat_35 : decode cX9_boat 35 = .ok (.iload_n 2, 1) := by decide +kernel
theorem dX9_boat_36 : decode cX9_boat 36 = .ok (.iconst 4, 1) := by decide +kernel
theorem dX9_boat_37 : decode cX9_boat 37 = .ok (.if_icmp .ge 18, 3) := by decide +kernel
theorem dX9_boat_40 : decode cX9_boat 40 = .ok (.aload_n 0, 1) := by decide +kernel
theorem dX9_boat_41 : decode cX9_boat 41 = .ok (.getfield 9, 3) := by decide +kernel
theorem dX9_boat_44 : decode cX9_boat 44 = .ok (.bipush 66, 2) := by decide +kernel
theorem dX9_boat_46 : decode cX9_boat 46 = .ok (.bipush 12, 2) := by decide +kernel
theorem dX9_boat_48 : decode cX9_boat 48 = .ok (.iload_n 2, 1) := by decide +kernel
theorem dX9_boat_49 : decode cX9_boat 49 = .ok (.imul, 1) := by decide +kernel
theorem dX9_boat_50 : decode cX9_boat 50 = .ok (.iadd, 1) := by decide +kernel
theorem dX9_boat_51 : decode cX9_boat 51 = .ok (.iload_n 1, 1) := by decide +kernel
theorem dX9_boat_52 : decode cX9_boat 52 = .ok (.iadd, 1) := by decide +kernel
theorem dX9_boat_53 : decode cX9_boat 53 = .ok (.iaload, 1) := by decide +kernel
theorem dX9_boat_54 : decode cX9_boat 54 = .ok (.ireturn, 1) := by decide +kernel
theorem dX9_boat_55 : decode cX9_boat 55 = .ok (.iconst 0, 1) := by decide +kernel
theorem dX9_boat_56 : decode cX9_boat 56 = .ok (.istore 4, 2) := by decide +kernel
theorem dX9_boat_58 : decode cX9_boat 58 = .ok (.iload 4, 2) := by decide +kernel
theorem dX9_boat_60 : decode cX9_boat 60 = .ok (.iconst 4, 1) := by decide +kernel
theorem dX9_boat_61 : decode cX9_boat 61 = .ok (.if_icmp .ge 18, 3) := by decide +kernel
theorem dX9_boat_64 : decode cX9_boat 64 = .ok (.iload_n 3, 1) := by decide +kernel
theorem dX9_boat_65 : decode cX9_boat 65 = .ok (.iload 4, 2) := by decide +kernel
theorem dX9_boat_67 : decode cX9_boat 67 = .ok (.invokestatic 115, 3) := by decide +kernel
theorem dX9_boat_70 : decode cX9_boat 70 = .ok (.ifCond .le 9, 3) := by decide +kernel
theorem dX9_boat_73 : decode cX9_boat 73 = .ok (.iinc 4 1, 3) := by decide +kernel
theorem dX9_boat_76 : decode cX9_boat 76 = .ok (.goto (-18), 3) := by decide +kernel
theorem dX9_boat_79 : decode cX9_boat 79 = .ok (.iload_n 2, 1) := by decide +kernel
theorem dX9_boat_80 : decode cX9_boat 80 = .ok (.iconst 4, 1) := by decide +kernel
theorem dX9_boat_81 : decode cX9_boat 81 = .ok (.if_icmp .ne 6, 3) := by decide +kernel
theorem dX9_boat_84 : decode cX9_boat 84 = .ok (.iload 4, 2) := by decide +kernel
theorem dX9_boat_86 : decode cX9_boat 86 = .ok (.ireturn, 1) := by decide +kernel
theorem dX9_boat_87 : decode cX9_boat 87 = .ok (.iload_n 2, 1) := by decide +kernel
theorem dX9_boat_88 : decode cX9_boat 88 = .ok (.bipush 10, 2) := by decide +kernel
theorem dX9_boat_90 : decode cX9_boat 90 = .ok (.isub, 1) := by decide +kernel
theorem dX9_boat_91 : decode cX9_boat 91 = .ok (.iload 4, 2) := by decide +kernel
theorem dX9_boat_93 : decode cX9_boat 93 = .ok (.if_icmp .ge 19, 3) := by decide +kernel
theorem dX9_boat_96 : decode cX9_boat 96 = .ok (.bipush 97, 2) := by decide +kernel
theorem dX9_boat_98 : decode cX9_boat 98 = .ok (.iload_n 3, 1) := by decide +kernel
theorem dX9_boat_99 : decode cX9_boat 99 = .ok (.iload_n 2, 1) := by decide +kernel
theorem dX9_boat_100 : decode cX9_boat 100 = .ok (.bipush 10, 2) := by decide +kernel
theorem dX9_boat_102 : decode cX9_boat 102 = .ok (.isub, 1) := by decide +kernel
theorem dX9_boat_103 : decode cX9_boat 103 = .ok (.invokestatic 115, 3) := by decide +kernel
theorem dX9_boat_106 : decode cX9_boat 106 = .ok (.iadd, 1) := by decide +kernel
theorem dX9_boat_107 : decode cX9_boat 107 = .ok (.iconst 1, 1) := by decide +kernel
theorem dX9_boat_108 : decode cX9_boat 108 = .ok (.isub, 1) := by decide +kernel
theorem dX9_boat_109 : decode cX9_boat 109 = .ok (.goto 5, 3) := by decide +kernel
theorem dX9_boat_112 : decode cX9_boat 112 = .ok (.bipush (-2), 2) := by decide +kernel
theorem dX9_boat_114 : decode cX9_boat 114 = .ok (.ireturn, 1) := by decide +kernel
theorem dX9_find_0 : decode cX9_find 0 = .ok (.aload_n 0, 1) := by decide +kernel
theorem dX9_find_1 : decode cX9_find 1 = .ok (.iconst 0, 1) := by decide +kernel
theorem dX9_find_2 : decode cX9_find 2 = .ok (.putfield 72, 3) := by decide +kernel
theorem dX9_find_5 : decode cX9_find 5 = .ok (.aload_n 0, 1) := by decide +kernel
theorem dX9_find_6 : decode cX9_find 6 = .ok (.iconst (-1), 1) := by decide +kernel
theorem dX9_find_7 : decode cX9_find 7 = .ok (.putfield 69, 3) := by decide +kernel
theorem dX9_find_10 : decode cX9_find 10 = .ok (.aload_n 0, 1) := by decide +kernel
theorem dX9_find_11 : decode cX9_find 11 = .ok (.invokevirtual 85, 3) := by decide +kernel
theorem dX9_find_14 : decode cX9_find 14 = .ok (.istore_n 1, 1) := by decide +kernel
theorem dX9_find_15 : decode cX9_find 15 = .ok (.aload_n 0, 1) := by decide +kernel
theorem dX9_find_16 : decode cX9_find 16 = .ok (.getfield 69, 3) := by decide +kernel
theorem dX9_find_19 : decode cX9_find 19 = .ok (.ifCond .ge 18, 3) := by decide +kernel
theorem dX9_find_22 : decode cX9_find 22 = .ok (.aload_n 0, 1) := by decide +kernel
theorem dX9_find_23 : decode cX9_find 23 = .ok (.getfield 72, 3) := by decide +kernel
theorem dX9_find_26 : decode cX9_find 26 = .ok (.aload_n 0, 1) := by decide +kernel
theorem dX9_find_27 : decode cX9_find 27 = .ok (.getfield 65, 3) := by decide +kernel
theorem dX9_find_30 : decode cX9_find 30 = .ok (.if_icmp .ne 7, 3) := by decide +kernel
theorem dX9_find_33 : decode cX9_find 33 = .ok (.iconst 1, 1) := by decide +kernel
theorem dX9_find_34 : decode cX9_find 34 = .ok (.goto 4, 3) := by decide +kernel
theorem dX9_find_37 : decode cX9_find 37 = .ok (.iconst 0, 1) := by decide +kernel
theorem dX9_find_38 : decode cX9_find 38 = .ok (.istore_n 2, 1) := by decide +kernel
theorem dX9_find_39 : decode cX9_find 39 = .ok (.aload_n 0, 1) := by decide +kernel
theorem dX9_find_40 : decode cX9_find 40 = .ok (.iconst 0, 1) := by decide +kernel
theorem dX9_find_41 : decode cX9_find 41 = .ok (.putfield 65, 3) := by decide +kernel
theorem dX9_find_44 : decode cX9_find 44 = .ok (.aload_n 0, 1) := by decide +kernel
theorem dX9_find_45 : decode cX9_find 45 = .ok (.iload_n 1, 1) := by decide +kernel
theorem dX9_find_46 : decode cX9_find 46 = .ok (.invokevirtual 92, 3) := by decide +kernel
theorem dX9_find_49 : decode cX9_find 49 = .ok (.istore_n 3, 1) := by decide +kernel
theorem dX9_find_50 : decode cX9_find 50 = .ok (.iload_n 2, 1) := by decide +kernel
theorem dX9_find_51 : decode cX9_find 51 = .ok (.ifCond .eq 16, 3) := by decide +kernel
theorem dX9_find_54 : decode cX9_find 54 = .ok (.aload_n 0, 1) := by decide +kernel
theorem dX9_find_55 : decode cX9_find 55 = .ok (.iload_n 3, 1) := by decide +kernel
theorem dX9_find_56 : decode cX9_find 56 = .ok (.iload_n 1, 1) := by decide +kernel
theorem dX9_find_57 : decode cX9_find 57 = .ok (.invokevirtual 95, 3) := by decide +kernel
theorem dX9_find_60 : decode cX9_find 60 = .ok (.ifCond .eq 7, 3) := by decide +kernel
theorem dX9_find_63 : decode cX9_find 63 = .ok (.iload_n 3, 1) := by decide +kernel
theorem dX9_find_64 : decode cX9_find 64 = .ok (.goto 5, 3) := by decide +kernel
theorem dX9_find_67 : decode cX9_find 67 = .ok (.bipush (-2), 2) := by decide +kernel
theorem dX9_find_69 : decode cX9_find 69 = .ok (.ireturn, 1) := by decide +kernel
theorem dX9_leaves_0 : decode cX9_leaves 0 = .ok (.aload_n 0, 1) := by decide +kernel
theorem dX9_leaves_1 : decode cX9_leaves 1 = .ok (.iload_n 1, 1) := by decide +kernel
theorem dX9_leaves_2 : decode cX9_leaves 2 = .ok (.invokevirtual 112, 3) := by decide +kernel
theorem dX9_leaves_5 : decode cX9_leaves 5 = .ok (.ifCond .ne 5, 3) := by decide +kernel
theorem dX9_leaves_8 : decode cX9_leaves 8 = .ok (.iconst (-1), 1) := by decide +kernel
theorem dX9_leaves_9 : decode cX9_leaves 9 = .ok (.ireturn, 1) := by decide +kernel
theorem dX9_leaves_10 : decode cX9_leaves 10 = .ok (.iload_n 1, 1) := by decide +kernel
theorem dX9_leaves_11 : decode cX9_leaves 11 = .ok (.iconst 1, 1) := by decide +kernel
theorem dX9_leaves_12 : decode cX9_leaves 12 = .ok (.iadd, 1) := by decide +kernel
theorem dX9_leaves_13 : decode cX9_leaves 13 = .ok (.istore_n 2, 1) := by decide +kernel
theorem dX9_leaves_14 : decode cX9_leaves 14 = .ok (.iload_n 2, 1) := by decide +kernel
theorem dX9_leaves_15 : decode cX9_leaves 15 = .ok (.aload_n 0, 1) := by decide +kernel
theorem dX9_leaves_16 : decode cX9_leaves 16 = .ok (.getfield 9, 3) := by decide +kernel
theorem dX9_leaves_19 : decode cX9_leaves 19 = .ok (.bipush 114, 2) := by decide +kernel
theorem dX9_leaves_21 : decode cX9_leaves 21 = .ok (.iaload, 1) := by decide +kernel
theorem dX9_leaves_22 : decode cX9_leaves 22 = .ok (.if_icmp .ge 17, 3) := by decide +kernel
theorem dX9_leaves_25 : decode cX9_leaves 25 = .ok (.aload_n 0, 1) := by decide +kernel
theorem dX9_leaves_26 : decode cX9_leaves 26 = .ok (.iload_n 2, 1) := by decide +kernel
theorem dX9_leaves_27 : decode cX9_leaves 27 = .ok (.iload_n 2, 1) := by decide +kernel
theorem dX9_leaves_28 : decode cX9_leaves 28 = .ok (.iconst 1, 1) := by decide +kernel
theorem dX9_leaves_29 : decode cX9_leaves 29 = .ok (.isub, 1) := by decide +kernel
theorem dX9_leaves_30 : decode cX9_leaves 30 = .ok (.invokevirtual 98, 3) := by decide +kernel
theorem dX9_leaves_33 : decode cX9_leaves 33 = .ok (.iinc 2 1, 3) := by decide +kernel
theorem dX9_leaves_36 : decode cX9_leaves 36 = .ok (.goto (-22), 3) := by decide +kernel
theorem dX9_leaves_39 : decode cX9_leaves 39 = .ok (.aload_n 0, 1) := by decide +kernel
theorem dX9_leaves_40 : decode cX9_leaves 40 = .ok (.getfield 9, 3) := by decide +kernel
theorem dX9_leaves_43 : decode cX9_leaves 43 = .ok (.bipush 114, 2) := by decide +kernel
theorem dX9_leaves_45 : decode cX9_leaves 45 = .ok (.dup2, 1) := by decide +kernel
theorem dX9_leaves_46 : decode cX9_leaves 46 = .ok (.iaload, 1) := by decide +kernel
theorem dX9_leaves_47 : decode cX9_leaves 47 = .ok (.iconst 1, 1) := by decide +kernel
theorem dX9_leaves_48 : decode cX9_leaves 48 = .ok (.isub, 1) := by decide +kernel
theorem dX9_leaves_49 : decode cX9_leaves 49 = .ok (.dup_x2, 1) := by decide +kernel
theorem dX9_leaves_50 : decode cX9_leaves 50 = .ok (.iastore, 1) := by decide +kernel
theorem dX9_leaves_51 : decode cX9_leaves 51 = .ok (.ireturn, 1) := by decide +kernel
theorem dX9_about_0 : decode cX9_about 0 = .ok (.aload_n 0, 1) := by decide +kernel
theorem dX9_about_1 : decode cX9_about 1 = .ok (.iload_n 1, 1) := by decide +kernel
theorem dX9_about_2 : decode cX9_about 2 = .ok (.invokevirtual 112, 3) := by decide +kernel
theorem dX9_about_5 : decode cX9_about 5 = .ok (.ifCond .ne 5, 3) := by decide +kernel
theorem dX9_about_8 : decode cX9_about 8 = .ok (.iconst (-1), 1) := by decide +kernel
theorem dX9_about_9 : decode cX9_about 9 = .ok (.ireturn, 1) := by decide +kernel
theorem dX9_about_10 : decode cX9_about 10 = .ok (.aload_n 0, 1) := by decide +kernel
theorem dX9_about_11 : decode cX9_about 11 = .ok (.getfield 9, 3) := by decide +kernel
theorem dX9_about_14 : decode cX9_about 14 = .ok (.bipush 90, 2) := by decide +kernel
theorem dX9_about_16 : decode cX9_about 16 = .ok (.iload_n 1, 1) := by decide +kernel
theorem dX9_about_17 : decode cX9_about 17 = .ok (.iadd, 1) := by decide +kernel
theorem dX9_about_18 : decode cX9_about 18 = .ok (.iconst 1, 1) := by decide +kernel
theorem dX9_about_19 : decode cX9_about 19 = .ok (.aload_n 0, 1) := by decide +kernel
theorem dX9_about_20 : decode cX9_about 20 = .ok (.getfield 9, 3) := by decide +kernel
theorem dX9_about_23 : decode cX9_about 23 = .ok (.bipush 90, 2) := by decide +kernel
theorem dX9_about_25 : decode cX9_about 25 = .ok (.iload_n 1, 1) := by decide +kernel
theorem dX9_about_26 : decode cX9_about 26 = .ok (.iadd, 1) := by decide +kernel
theorem dX9_about_27 : decode cX9_about 27 = .ok (.iaload, 1) := by decide +kernel
theorem dX9_about_28 : decode cX9_about 28 = .ok (.isub, 1) := by decide +kernel
theorem dX9_about_29 : decode cX9_about 29 = .ok (.iastore, 1) := by decide +kernel
theorem dX9_about_30 : decode cX9_about 30 = .ok (.aload_n 0, 1) := by decide +kernel
theorem dX9_about_31 : decode cX9_about 31 = .ok (.getfield 9, 3) := by decide +kernel
theorem dX9_about_34 : decode cX9_about 34 = .ok (.bipush 90, 2) := by decide +kernel
theorem dX9_about_36 : decode cX9_about 36 = .ok (.iload_n 1, 1) := by decide +kernel
theorem dX9_about_37 : decode cX9_about 37 = .ok (.iadd, 1) := by decide +kernel
theorem dX9_about_38 : decode cX9_about 38 = .ok (.iaload, 1) := by decide +kernel
theorem dX9_about_39 : decode cX9_about 39 = .ok (.ireturn, 1) := by decide +kernel
theorem dX9_flows_0 : decode cX9_flows 0 = .ok (.iload_n 1, 1) := by decide +kernel
theorem dX9_flows_1 : decode cX9_flows 1 = .ok (.iconst 1, 1) := by decide +kernel
theorem dX9_flows_2 : decode cX9_flows 2 = .ok (.iadd, 1) := by decide +kernel
theorem dX9_flows_3 : decode cX9_flows 3 = .ok (.istore 5, 2) := by decide +kernel
theorem dX9_flows_5 : decode cX9_flows 5 = .ok (.iload 5, 2) := by decide +kernel
theorem dX9_flows_7 : decode cX9_flows 7 = .ok (.iload_n 1, 1) := by decide +kernel
theorem dX9_flows_8 : decode cX9_flows 8 = .ok (.if_icmp .lt 104, 3) := by decide +kernel
theorem dX9_flows_11 : decode cX9_flows 11 = .ok (.aload_n 0, 1) := by decide +kernel
theorem dX9_flows_12 : decode cX9_flows 12 = .ok (.getfield 9, 3) := by decide +kernel
theorem dX9_flows_15 : decode cX9_flows 15 = .ok (.bipush 24, 2) := by decide +kernel
theorem dX9_flows_17 : decode cX9_flows 17 = .ok (.iload 5, 2) := by decide +kernel
theorem dX9_flows_19 : decode cX9_flows 19 = .ok (.iadd, 1) := by decide +kernel
theorem dX9_flows_20 : decode cX9_flows 20 = .ok (.iaload, 1) := by decide +kernel
theorem dX9_flows_21 : decode cX9_flows 21 = .ok (.iload 5, 2) := by decide +kernel
theorem dX9_flows_23 : decode cX9_flows 23 = .ok (.iload_n 1, 1) := by decide +kernel
theorem dX9_flows_24 : decode cX9_flows 24 = .ok (.if_icmp .ne 7, 3) := by decide +kernel
theorem dX9_flows_27 : decode cX9_flows 27 = .ok (.iload_n 3, 1) := by decide +kernel
theorem dX9_flows_28 : decode cX9_flows 28 = .ok (.goto 4, 3) := by decide +kernel
theorem dX9_flows_31 : decode cX9_flows 31 = .ok (.iload_n 2, 1) := by decide +kernel
theorem dX9_flows_32 : decode cX9_flows 32 = .ok (.iadd, 1) := by decide +kernel
theorem dX9_flows_33 : decode cX9_flows 33 = .ok (.istore 6, 2) := by decide +kernel
theorem dX9_flows_35 : decode cX9_flows 35 = .ok (.iload 6, 2) := by decide +kernel
theorem dX9_flows_37 : decode cX9_flows 37 = .ok (.aload_n 0, 1) := by decide +kernel
theorem dX9_flows_38 : decode cX9_flows 38 = .ok (.getfield 9, 3) := by decide +kernel
theorem dX9_flows_41 : decode cX9_flows 41 = .ok (.bipush 31, 2) := by decide +kernel
theorem dX9_flows_43 : decode cX9_flows 43 = .ok (.iload 5, 2) := by decide +kernel
theorem dX9_flows_45 : decode cX9_flows 45 = .ok (.iadd, 1) := by decide +kernel
theorem dX9_flows_46 : decode cX9_flows 46 = .ok (.iaload, 1) := by decide +kernel
theorem dX9_flows_47 : decode cX9_flows 47 = .ok (.if_icmp .lt 21, 3) := by decide +kernel
theorem dX9_flows_50 : decode cX9_flows 50 = .ok (.iload 6, 2) := by decide +kernel
theorem dX9_flows_52 : decode cX9_flows 52 = .ok (.aload_n 0, 1) := by decide +kernel
theorem dX9_flows_53 : decode cX9_flows 53 = .ok (.getfield 9, 3) := by decide +kernel
theorem dX9_flows_56 : decode cX9_flows 56 = .ok (.bipush 38, 2) := by decide +kernel
theorem dX9_flows_58 : decode cX9_flows 58 = .ok (.iload 5, 2) := by decide +kernel
theorem dX9_flows_60 : decode cX9_flows 60 = .ok (.iadd, 1) := by decide +kernel
theorem dX9_flows_61 : decode cX9_flows 61 = .ok (.iaload, 1) := by decide +kernel
theorem dX9_flows_62 : decode cX9_flows 62 = .ok (.if_icmp .gt 6, 3) := by decide +kernel
theorem dX9_flows_65 : decode cX9_flows 65 = .ok (.goto 41, 3) := by decide +kernel
theorem dX9_flows_68 : decode cX9_flows 68 = .ok (.aload_n 0, 1) := by decide +kernel
theorem dX9_flows_69 : decode cX9_flows 69 = .ok (.iload 4, 2) := by decide +kernel
theorem dX9_flows_71 : decode cX9_flows 71 = .ok (.putfield 118, 3) := by decide +kernel
theorem dX9_flows_74 : decode cX9_flows 74 = .ok (.aload_n 0, 1) := by decide +kernel
theorem dX9_flows_75 : decode cX9_flows 75 = .ok (.iload 5, 2) := by decide +kernel
theorem dX9_flows_77 : decode cX9_flows 77 = .ok (.putfield 121, 3) := by decide +kernel
theorem dX9_flows_80 : decode cX9_flows 80 = .ok (.aload_n 0, 1) := by decide +kernel
theorem dX9_flows_81 : decode cX9_flows 81 = .ok (.iload 6, 2) := by decide +kernel
theorem dX9_flows_83 : decode cX9_flows 83 = .ok (.aload_n 0, 1) := by decide +kernel
theorem dX9_flows_84 : decode cX9_flows 84 = .ok (.getfield 9, 3) := by decide +kernel
theorem dX9_flows_87 : decode cX9_flows 87 = .ok (.bipush 31, 2) := by decide +kernel
theorem dX9_flows_89 : decode cX9_flows 89 = .ok (.iload 5, 2) := by decide +kernel
theorem dX9_flows_91 : decode cX9_flows 91 = .ok (.iadd, 1) := by decide +kernel
theorem dX9_flows_92 : decode cX9_flows 92 = .ok (.iaload, 1) := by decide +kernel
theorem dX9_flows_93 : decode cX9_flows 93 = .ok (.if_icmp .ge 7, 3) := by decide +kernel
theorem dX9_flows_96 : decode cX9_flows 96 = .ok (.iconst 1, 1) := by decide +kernel
theorem dX9_flows_97 : decode cX9_flows 97 = .ok (.goto 4, 3) := by decide +kernel
theorem dX9_flows_100 : decode cX9_flows 100 = .ok (.iconst 2, 1) := by decide +kernel
theorem dX9_flows_101 : decode cX9_flows 101 = .ok (.putfield 124, 3) := by decide +kernel
theorem dX9_flows_104 : decode cX9_flows 104 = .ok (.iconst 0, 1) := by decide +kernel
theorem dX9_flows_105 : decode cX9_flows 105 = .ok (.ireturn, 1) := by decide +kernel
theorem dX9_flows_106 : decode cX9_flows 106 = .ok (.iinc 5 (-1), 3) := by decide +kernel
theorem dX9_flows_109 : decode cX9_flows 109 = .ok (.goto (-104), 3) := by decide +kernel
theorem dX9_flows_112 : decode cX9_flows 112 = .ok (.aload_n 0, 1) := by decide +kernel
theorem dX9_flows_113 : decode cX9_flows 113 = .ok (.getfield 9, 3) := by decide +kernel
theorem dX9_flows_116 : decode cX9_flows 116 = .ok (.bipush 24, 2) := by decide +kernel
theorem dX9_flows_118 : decode cX9_flows 118 = .ok (.iload_n 1, 1) := by decide +kernel
theorem dX9_flows_119 : decode cX9_flows 119 = .ok (.iadd, 1) := by decide +kernel
theorem dX9_flows_120 : decode cX9_flows 120 = .ok (.iconst 1, 1) := by decide +kernel
theorem dX9_flows_121 : decode cX9_flows 121 = .ok (.iadd, 1) := by decide +kernel
theorem dX9_flows_122 : decode cX9_flows 122 = .ok (.dup2, 1) := by decide +kernel
theorem dX9_flows_123 : decode cX9_flows 123 = .ok (.iaload, 1) := by decide +kernel
theorem dX9_flows_124 : decode cX9_flows 124 = .ok (.iload_n 2, 1) := by decide +kernel
theorem dX9_flows_125 : decode cX9_flows 125 = .ok (.iadd, 1) := by decide +kernel
theorem dX9_flows_126 : decode cX9_flows 126 = .ok (.iastore, 1) := by decide +kernel
theorem dX9_flows_127 : decode cX9_flows 127 = .ok (.aload_n 0, 1) := by decide +kernel
theorem dX9_flows_128 : decode cX9_flows 128 = .ok (.getfield 9, 3) := by decide +kernel
theorem dX9_flows_131 : decode cX9_flows 131 = .ok (.bipush 24, 2) := by decide +kernel
theorem dX9_flows_133 : decode cX9_flows 133 = .ok (.iload_n 1, 1) := by decide +kernel
theorem dX9_flows_134 : decode cX9_flows 134 = .ok (.iadd, 1) := by decide +kernel
theorem dX9_flows_135 : decode cX9_flows 135 = .ok (.dup2, 1) := by decide +kernel
theorem dX9_flows_136 : decode cX9_flows 136 = .ok (.iaload, 1) := by decide +kernel
theorem dX9_flows_137 : decode cX9_flows 137 = .ok (.iload_n 3, 1) := by decide +kernel
theorem dX9_flows_138 : decode cX9_flows 138 = .ok (.iadd, 1) := by decide +kernel
theorem dX9_flows_139 : decode cX9_flows 139 = .ok (.iastore, 1) := by decide +kernel
theorem dX9_flows_140 : decode cX9_flows 140 = .ok (.iconst 1, 1) := by decide +kernel
theorem dX9_flows_141 : decode cX9_flows 141 = .ok (.ireturn, 1) := by decide +kernel
theorem dX9_fills_0 : decode cX9_fills 0 = .ok (.aload_n 0, 1) := by decide +kernel
theorem dX9_fills_1 : decode cX9_fills 1 = .ok (.iload_n 1, 1) := by decide +kernel
theorem dX9_fills_2 : decode cX9_fills 2 = .ok (.aload_n 0, 1) := by decide +kernel
theorem dX9_fills_3 : decode cX9_fills 3 = .ok (.getfield 9, 3) := by decide +kernel
theorem dX9_fills_6 : decode cX9_fills 6 = .ok (.bipush 12, 2) := by decide +kernel
theorem dX9_fills_8 : decode cX9_fills 8 = .ok (.iload_n 1, 1) := by decide +kernel
theorem dX9_fills_9 : decode cX9_fills 9 = .ok (.iadd, 1) := by decide +kernel
theorem dX9_fills_10 : decode cX9_fills 10 = .ok (.iaload, 1) := by decide +kernel
theorem dX9_fills_11 : decode cX9_fills 11 = .ok (.aload_n 0, 1) := by decide +kernel
theorem dX9_fills_12 : decode cX9_fills 12 = .ok (.getfield 9, 3) := by decide +kernel
theorem dX9_fills_15 : decode cX9_fills 15 = .ok (.iconst 0, 1) := by decide +kernel
theorem dX9_fills_16 : decode cX9_fills 16 = .ok (.iload_n 1, 1) := by decide +kernel
theorem dX9_fills_17 : decode cX9_fills 17 = .ok (.iadd, 1) := by decide +kernel
theorem dX9_fills_18 : decode cX9_fills 18 = .ok (.iaload, 1) := by decide +kernel
theorem dX9_fills_19 : decode cX9_fills 19 = .ok (.isub, 1) := by decide +kernel
theorem dX9_fills_20 : decode cX9_fills 20 = .ok (.iconst 0, 1) := by decide +kernel
theorem dX9_fills_21 : decode cX9_fills 21 = .ok (.iconst 2, 1) := by decide +kernel
theorem dX9_fills_22 : decode cX9_fills 22 = .ok (.invokevirtual 127, 3) := by decide +kernel
theorem dX9_fills_25 : decode cX9_fills 25 = .ok (.ifCond .ne 5, 3) := by decide +kernel
theorem dX9_fills_28 : decode cX9_fills 28 = .ok (.iconst 0, 1) := by decide +kernel
theorem dX9_fills_29 : decode cX9_fills 29 = .ok (.ireturn, 1) := by decide +kernel
theorem dX9_fills_30 : decode cX9_fills 30 = .ok (.aload_n 0, 1) := by decide +kernel
theorem dX9_fills_31 : decode cX9_fills 31 = .ok (.getfield 9, 3) := by decide +kernel
theorem dX9_fills_34 : decode cX9_fills 34 = .ok (.bipush 12, 2) := by decide +kernel
theorem dX9_fills_36 : decode cX9_fills 36 = .ok (.iload_n 1, 1) := by decide +kernel
theorem dX9_fills_37 : decode cX9_fills 37 = .ok (.iadd, 1) := by decide +kernel
theorem dX9_fills_38 : decode cX9_fills 38 = .ok (.iconst 0, 1) := by decide +kernel
theorem dX9_fills_39 : decode cX9_fills 39 = .ok (.iastore, 1) := by decide +kernel
theorem dX9_fills_40 : decode cX9_fills 40 = .ok (.aload_n 0, 1) := by decide +kernel
theorem dX9_fills_41 : decode cX9_fills 41 = .ok (.getfield 9, 3) := by decide +kernel
theorem dX9_fills_44 : decode cX9_fills 44 = .ok (.bipush 18, 2) := by decide +kernel
theorem dX9_fills_46 : decode cX9_fills 46 = .ok (.iload_n 1, 1) := by decide +kernel
theorem dX9_fills_47 : decode cX9_fills 47 = .ok (.iadd, 1) := by decide +kernel
theorem dX9_fills_48 : decode cX9_fills 48 = .ok (.iconst 1, 1) := by decide +kernel
theorem dX9_fills_49 : decode cX9_fills 49 = .ok (.iastore, 1) := by decide +kernel
theorem dX9_fills_50 : decode cX9_fills 50 = .ok (.iconst 1, 1) := by decide +kernel
theorem dX9_fills_51 : decode cX9_fills 51 = .ok (.ireturn, 1) := by decide +kernel
theorem dX9_empties_0 : decode cX9_empties 0 = .ok (.aload_n 0, 1) := by decide +kernel
theorem dX9_empties_1 : decode cX9_empties 1 = .ok (.iload_n 1, 1) := by decide +kernel
theorem dX9_empties_2 : decode cX9_empties 2 = .ok (.iconst 0, 1) := by decide +kernel
theorem dX9_empties_3 : decode cX9_empties 3 = .ok (.aload_n 0, 1) := by decide +kernel
theorem dX9_empties_4 : decode cX9_empties 4 = .ok (.getfield 9, 3) := by decide +kernel
theorem dX9_empties_7 : decode cX9_empties 7 = .ok (.iconst 0, 1) := by decide +kernel
theorem dX9_empties_8 : decode cX9_empties 8 = .ok (.iload_n 1, 1) := by decide +kernel
theorem dX9_empties_9 : decode cX9_empties 9 = .ok (.iadd, 1) := by decide +kernel
theorem dX9_empties_10 : decode cX9_empties 10 = .ok (.iaload, 1) := by decide +kernel
theorem dX9_empties_11 : decode cX9_empties 11 = .ok (.aload_n 0, 1) := by decide +kernel
theorem dX9_empties_12 : decode cX9_empties 12 = .ok (.iload_n 1, 1) := by decide +kernel
theorem dX9_empties_13 : decode cX9_empties 13 = .ok (.invokevirtual 58, 3) := by decide +kernel
theorem dX9_empties_16 : decode cX9_empties 16 = .ok (.isub, 1) := by decide +kernel
theorem dX9_empties_17 : decode cX9_empties 17 = .ok (.iconst 1, 1) := by decide +kernel
theorem dX9_empties_18 : decode cX9_empties 18 = .ok (.invokevirtual 127, 3) := by decide +kernel
theorem dX9_empties_21 : decode cX9_empties 21 = .ok (.ifCond .ne 5, 3) := by decide +kernel
theorem dX9_empties_24 : decode cX9_empties 24 = .ok (.iconst 0, 1) := by decide +kernel
theorem dX9_empties_25 : decode cX9_empties 25 = .ok (.ireturn, 1) := by decide +kernel
theorem dX9_empties_26 : decode cX9_empties 26 = .ok (.aload_n 0, 1) := by decide +kernel
theorem dX9_empties_27 : decode cX9_empties 27 = .ok (.getfield 9, 3) := by decide +kernel
theorem dX9_empties_30 : decode cX9_empties 30 = .ok (.bipush 12, 2) := by decide +kernel
theorem dX9_empties_32 : decode cX9_empties 32 = .ok (.iload_n 1, 1) := by decide +kernel
theorem dX9_empties_33 : decode cX9_empties 33 = .ok (.iadd, 1) := by decide +kernel
theorem dX9_empties_34 : decode cX9_empties 34 = .ok (.aload_n 0, 1) := by decide +kernel
theorem dX9_empties_35 : decode cX9_empties 35 = .ok (.iload_n 1, 1) := by decide +kernel
theorem dX9_empties_36 : decode cX9_empties 36 = .ok (.invokevirtual 58, 3) := by decide +kernel
theorem dX9_empties_39 : decode cX9_empties 39 = .ok (.iastore, 1) := by decide +kernel
theorem dX9_empties_40 : decode cX9_empties 40 = .ok (.aload_n 0, 1) := by decide +kernel
theorem dX9_empties_41 : decode cX9_empties 41 = .ok (.getfield 9, 3) := by decide +kernel
theorem dX9_empties_44 : decode cX9_empties 44 = .ok (.bipush 18, 2) := by decide +kernel
theorem dX9_empties_46 : decode cX9_empties 46 = .ok (.iload_n 1, 1) := by decide +kernel
theorem dX9_empties_47 : decode cX9_empties 47 = .ok (.iadd, 1) := by decide +kernel
theorem dX9_empties_48 : decode cX9_empties 48 = .ok (.iconst 0, 1) := by decide +kernel
theorem dX9_empties_49 : decode cX9_empties 49 = .ok (.iastore, 1) := by decide +kernel
theorem dX9_empties_50 : decode cX9_empties 50 = .ok (.iconst 1, 1) := by decide +kernel
theorem dX9_empties_51 : decode cX9_empties 51 = .ok (.ireturn, 1) := by decide +kernel
theorem dX9_goes_0 : decode cX9_goes 0 = .ok (.aload_n 0, 1) := by decide +kernel
theorem dX9_goes_1 : decode cX9_goes 1 = .ok (.getfield 9, 3) := by decide +kernel
theorem dX9_goes_4 : decode cX9_goes 4 = .ok (.bipush 24, 2) := by decide +kernel
theorem dX9_goes_6 : decode cX9_goes 6 = .ok (.iload_n 1, 1) := by decide +kernel
theorem dX9_goes_7 : decode cX9_goes 7 = .ok (.iadd, 1) := by decide +kernel
theorem dX9_goes_8 : decode cX9_goes 8 = .ok (.iaload, 1) := by decide +kernel
theorem dX9_goes_9 : decode cX9_goes 9 = .ok (.istore 4, 2) := by decide +kernel
theorem dX9_goes_11 : decode cX9_goes 11 = .ok (.aload_n 0, 1) := by decide +kernel
theorem dX9_goes_12 : decode cX9_goes 12 = .ok (.getfield 9, 3) := by decide +kernel
theorem dX9_goes_15 : decode cX9_goes 15 = .ok (.bipush 24, 2) := by decide +kernel
theorem dX9_goes_17 : decode cX9_goes 17 = .ok (.iload_n 1, 1) := by decide +kernel
theorem dX9_goes_18 : decode cX9_goes 18 = .ok (.iadd, 1) := by decide +kernel
theorem dX9_goes_19 : decode cX9_goes 19 = .ok (.iconst 1, 1) := by decide +kernel
theorem dX9_goes_20 : decode cX9_goes 20 = .ok (.iadd, 1) := by decide +kernel
theorem dX9_goes_21 : decode cX9_goes 21 = .ok (.iaload, 1) := by decide +kernel
theorem dX9_goes_22 : decode cX9_goes 22 = .ok (.istore 5, 2) := by decide +kernel
theorem dX9_goes_24 : decode cX9_goes 24 = .ok (.aload_n 0, 1) := by decide +kernel
theorem dX9_goes_25 : decode cX9_goes 25 = .ok (.getfield 9, 3) := by decide +kernel
theorem dX9_goes_28 : decode cX9_goes 28 = .ok (.bipush 12, 2) := by decide +kernel
theorem dX9_goes_30 : decode cX9_goes 30 = .ok (.iload_n 1, 1) := by decide +kernel
theorem dX9_goes_31 : decode cX9_goes 31 = .ok (.iadd, 1) := by decide +kernel
theorem dX9_goes_32 : decode cX9_goes 32 = .ok (.iaload, 1) := by decide +kernel
theorem dX9_goes_33 : decode cX9_goes 33 = .ok (.istore 6, 2) := by decide +kernel
theorem dX9_goes_35 : decode cX9_goes 35 = .ok (.aload_n 0, 1) := by decide +kernel
theorem dX9_goes_36 : decode cX9_goes 36 = .ok (.getfield 9, 3) := by decide +kernel
theorem dX9_goes_39 : decode cX9_goes 39 = .ok (.bipush 18, 2) := by decide +kernel
theorem dX9_goes_41 : decode cX9_goes 41 = .ok (.iload_n 1, 1) := by decide +kernel
theorem dX9_goes_42 : decode cX9_goes 42 = .ok (.iadd, 1) := by decide +kernel
theorem dX9_goes_43 : decode cX9_goes 43 = .ok (.iaload, 1) := by decide +kernel
theorem dX9_goes_44 : decode cX9_goes 44 = .ok (.istore 7, 2) := by decide +kernel
theorem dX9_goes_46 : decode cX9_goes 46 = .ok (.iload_n 2, 1) := by decide +kernel
theorem dX9_goes_47 : decode cX9_goes 47 = .ok (.ifCond .eq 46, 3) := by decide +kernel
theorem dX9_goes_50 : decode cX9_goes 50 = .ok (.iload 7, 2) := by decide +kernel
theorem dX9_goes_52 : decode cX9_goes 52 = .ok (.ifCond .eq 11, 3) := by decide +kernel
theorem dX9_goes_55 : decode cX9_goes 55 = .ok (.aload_n 0, 1) := by decide +kernel
theorem dX9_goes_56 : decode cX9_goes 56 = .ok (.iload_n 1, 1) := by decide +kernel
theorem dX9_goes_57 : decode cX9_goes 57 = .ok (.invokevirtual 131, 3) := by decide +kernel
theorem dX9_goes_60 : decode cX9_goes 60 = .ok (.ifCond .eq 27, 3) := by decide +kernel
theorem dX9_goes_63 : decode cX9_goes 63 = .ok (.aload_n 0, 1) := by decide +kernel
theorem dX9_goes_64 : decode cX9_goes 64 = .ok (.iload_n 1, 1) := by decide +kernel
theorem dX9_goes_65 : decode cX9_goes 65 = .ok (.invokevirtual 134, 3) := by decide +kernel
theorem dX9_goes_68 : decode cX9_goes 68 = .ok (.ifCond .eq 19, 3) := by decide +kernel
theorem dX9_goes_71 : decode cX9_goes 71 = .ok (.aload_n 0, 1) := by decide +kernel
theorem dX9_goes_72 : decode cX9_goes 72 = .ok (.iload_n 1, 1) := by decide +kernel
theorem dX9_goes_73 : decode cX9_goes 73 = .ok (.iload_n 3, 1) := by decide +kernel
theorem dX9_goes_74 : decode cX9_goes 74 = .ok (.ineg, 1) := by decide +kernel
theorem dX9_goes_75 : decode cX9_goes 75 = .ok (.iload_n 3, 1) := by decide +kernel
theorem dX9_goes_76 : decode cX9_goes 76 = .ok (.iconst 3, 1) := by decide +kernel
theorem dX9_goes_77 : decode cX9_goes 77 = .ok (.invokevirtual 127, 3) := by decide +kernel
theorem dX9_goes_80 : decode cX9_goes 80 = .ok (.ifCond .eq 7, 3) := by decide +kernel
theorem dX9_goes_83 : decode cX9_goes 83 = .ok (.iconst 1, 1) := by decide +kernel
theorem dX9_goes_84 : decode cX9_goes 84 = .ok (.goto 4, 3) := by decide +kernel
theorem dX9_goes_87 : decode cX9_goes 87 = .ok (.iconst 0, 1) := by decide +kernel
theorem dX9_goes_88 : decode cX9_goes 88 = .ok (.istore 8, 2) := by decide +kernel
theorem dX9_goes_90 : decode cX9_goes 90 = .ok (.goto 44, 3) := by decide +kernel
theorem dX9_goes_93 : decode cX9_goes 93 = .ok (.iload 7, 2) := by decide +kernel
theorem dX9_goes_95 : decode cX9_goes 95 = .ok (.iconst 1, 1) := by decide +kernel
theorem dX9_goes_96 : decode cX9_goes 96 = .ok (.if_icmp .eq 11, 3) := by decide +kernel
theorem dX9_goes_99 : decode cX9_goes 99 = .ok (.aload_n 0, 1) := by decide +kernel
theorem dX9_goes_100 : decode cX9_goes 100 = .ok (.iload_n 1, 1) := by decide +kernel
theorem dX9_goes_101 : decode cX9_goes 101 = .ok (.invokevirtual 134, 3) := by decide +kernel
theorem dX9_goes_104 : decode cX9_goes 104 = .ok (.ifCond .eq 27, 3) := by decide +kernel
theorem dX9_goes_107 : decode cX9_goes 107 = .ok (.aload_n 0, 1) := by decide +kernel
theorem dX9_goes_108 : decode cX9_goes 108 = .ok (.iload_n 1, 1) := by decide +kernel
theorem dX9_goes_109 : decode cX9_goes 109 = .ok (.invokevirtual 131, 3) := by decide +kernel
theorem dX9_goes_112 : decode cX9_goes 112 = .ok (.ifCond .eq 19, 3) := by decide +kernel
theorem dX9_goes_115 : decode cX9_goes 115 = .ok (.aload_n 0, 1) := by decide +kernel
theorem dX9_goes_116 : decode cX9_goes 116 = .ok (.iload_n 1, 1) := by decide +kernel
theorem dX9_goes_117 : decode cX9_goes 117 = .ok (.iload_n 3, 1) := by decide +kernel
theorem dX9_goes_118 : decode cX9_goes 118 = .ok (.iload_n 3, 1) := by decide +kernel
theorem dX9_goes_119 : decode cX9_goes 119 = .ok (.ineg, 1) := by decide +kernel
theorem dX9_goes_120 : decode cX9_goes 120 = .ok (.iconst 3, 1) := by decide +kernel
theorem dX9_goes_121 : decode cX9_goes 121 = .ok (.invokevirtual 127, 3) := by decide +kernel
theorem dX9_goes_124 : decode cX9_goes 124 = .ok (.ifCond .eq 7, 3) := by decide +kernel
theorem dX9_goes_127 : decode cX9_goes 127 = .ok (.iconst 1, 1) := by decide +kernel
theorem dX9_goes_128 : decode cX9_goes 128 = .ok (.goto 4, 3) := by decide +kernel
theorem dX9_goes_131 : decode cX9_goes 131 = .ok (.iconst 0, 1) := by decide +kernel
theorem dX9_goes_132 : decode cX9_goes 132 = .ok (.istore 8, 2) := by decide +kernel
theorem dX9_goes_134 : decode cX9_goes 134 = .ok (.aload_n 0, 1) := by decide +kernel
theorem dX9_goes_135 : decode cX9_goes 135 = .ok (.iload 5, 2) := by decide +kernel
theorem dX9_goes_137 : decode cX9_goes 137 = .ok (.aload_n 0, 1) := by decide +kernel
theorem dX9_goes_138 : decode cX9_goes 138 = .ok (.getfield 9, 3) := by decide +kernel
theorem dX9_goes_141 : decode cX9_goes 141 = .ok (.bipush 24, 2) := by decide +kernel
theorem dX9_goes_143 : decode cX9_goes 143 = .ok (.iload_n 1, 1) := by decide +kernel
theorem dX9_goes_144 : decode cX9_goes 144 = .ok (.iadd, 1) := by decide +kernel
theorem dX9_goes_145 : decode cX9_goes 145 = .ok (.iconst 1, 1) := by decide +kernel
theorem dX9_goes_146 : decode cX9_goes 146 = .ok (.iadd, 1) := by decide +kernel
theorem dX9_goes_147 : decode cX9_goes 147 = .ok (.iaload, 1) := by decide +kernel
theorem dX9_goes_148 : decode cX9_goes 148 = .ok (.isub, 1) := by decide +kernel
theorem dX9_goes_149 : decode cX9_goes 149 = .ok (.putfield 137, 3) := by decide +kernel
theorem dX9_goes_152 : decode cX9_goes 152 = .ok (.iload 8, 2) := by decide +kernel
theorem dX9_goes_154 : decode cX9_goes 154 = .ok (.ifCond .ne 49, 3) := by decide +kernel
theorem dX9_goes_157 : decode cX9_goes 157 = .ok (.aload_n 0, 1) := by decide +kernel
theorem dX9_goes_158 : decode cX9_goes 158 = .ok (.getfield 9, 3) := by decide +kernel
theorem dX9_goes_161 : decode cX9_goes 161 = .ok (.bipush 24, 2) := by decide +kernel
theorem dX9_goes_163 : decode cX9_goes 163 = .ok (.iload_n 1, 1) := by decide +kernel
theorem dX9_goes_164 : decode cX9_goes 164 = .ok (.iadd, 1) := by decide +kernel
theorem dX9_goes_165 : decode cX9_goes 165 = .ok (.iload 4, 2) := by decide +kernel
theorem dX9_goes_167 : decode cX9_goes 167 = .ok (.iastore, 1) := by decide +kernel
theorem dX9_goes_168 : decode cX9_goes 168 = .ok (.aload_n 0, 1) := by decide +kernel
theorem dX9_goes_169 : decode cX9_goes 169 = .ok (.getfield 9, 3) := by decide +kernel
theorem dX9_goes_172 : decode cX9_goes 172 = .ok (.bipush 24, 2) := by decide +kernel
theorem dX9_goes_174 : decode cX9_goes 174 = .ok (.iload_n 1, 1) := by decide +kernel
theorem dX9_goes_175 : decode cX9_goes 175 = .ok (.iadd, 1) := by decide +kernel
theorem dX9_goes_176 : decode cX9_goes 176 = .ok (.iconst 1, 1) := by decide +kernel
theorem dX9_goes_177 : decode cX9_goes 177 = .ok (.iadd, 1) := by decide +kernel
theorem dX9_goes_178 : decode cX9_goes 178 = .ok (.iload 5, 2) := by decide +kernel
theorem dX9_goes_180 : decode cX9_goes 180 = .ok (.iastore, 1) := by decide +kernel
theorem dX9_goes_181 : decode cX9_goes 181 = .ok (.aload_n 0, 1) := by decide +kernel
theorem dX9_goes_182 : decode cX9_goes 182 = .ok (.getfield 9, 3) := by decide +kernel
theorem dX9_goes_185 : decode cX9_goes 185 = .ok (.bipush 12, 2) := by decide +kernel
theorem dX9_goes_187 : decode cX9_goes 187 = .ok (.iload_n 1, 1) := by decide +kernel
theorem dX9_goes_188 : decode cX9_goes 188 = .ok (.iadd, 1) := by decide +kernel
theorem dX9_goes_189 : decode cX9_goes 189 = .ok (.iload 6, 2) := by decide +kernel
theorem dX9_goes_191 : decode cX9_goes 191 = .ok (.iastore, 1) := by decide +kernel
theorem dX9_goes_192 : decode cX9_goes 192 = .ok (.aload_n 0, 1) := by decide +kernel
theorem dX9_goes_193 : decode cX9_goes 193 = .ok (.getfield 9, 3) := by decide +kernel
theorem dX9_goes_196 : decode cX9_goes 196 = .ok (.bipush 18, 2) := by decide +kernel
theorem dX9_goes_198 : decode cX9_goes 198 = .ok (.iload_n 1, 1) := by decide +kernel
theorem dX9_goes_199 : decode cX9_goes 199 = .ok (.iadd, 1) := by decide +kernel
theorem dX9_goes_200 : decode cX9_goes 200 = .ok (.iload 7, 2) := by decide +kernel
theorem dX9_goes_202 : decode cX9_goes 202 = .ok (.iastore, 1) := by decide +kernel
theorem dX9_goes_203 : decode cX9_goes 203 = .ok (.iload 8, 2) := by decide +kernel
theorem dX9_goes_205 : decode cX9_goes 205 = .ok (.ireturn, 1) := by decide +kernel
theorem dX9_goesTruly_0 : decode cX9_goesTruly 0 = .ok (.aload_n 0, 1) := by decide +kernel
theorem dX9_goesTruly_1 : decode cX9_goesTruly 1 = .ok (.iload_n 1, 1) := by decide +kernel
theorem dX9_goesTruly_2 : decode cX9_goesTruly 2 = .ok (.iload_n 2, 1) := by decide +kernel
theorem dX9_goesTruly_3 : decode cX9_goesTruly 3 = .ok (.iload_n 3, 1) := by decide +kernel
theorem dX9_goesTruly_4 : decode cX9_goesTruly 4 = .ok (.invokevirtual 140, 3) := by decide +kernel
theorem dX9_goesTruly_7 : decode cX9_goesTruly 7 = .ok (.ifCond .eq 24, 3) := by decide +kernel
theorem dX9_goesTruly_10 : decode cX9_goesTruly 10 = .ok (.aload_n 0, 1) := by decide +kernel
theorem dX9_goesTruly_11 : decode cX9_goesTruly 11 = .ok (.getfield 9, 3) := by decide +kernel
theorem dX9_goesTruly_14 : decode cX9_goesTruly 14 = .ok (.bipush 115, 2) := by decide +kernel
theorem dX9_goesTruly_16 : decode cX9_goesTruly 16 = .ok (.aload_n 0, 1) := by decide +kernel
theorem dX9_goesTruly_17 : decode cX9_goesTruly 17 = .ok (.getfield 137, 3) := by decide +kernel
theorem dX9_goesTruly_20 : decode cX9_goesTruly 20 = .ok (.iadd, 1) := by decide +kernel
theorem dX9_goesTruly_21 : decode cX9_goesTruly 21 = .ok (.bipush 9, 2) := by decide +kernel
theorem dX9_goesTruly_23 : decode cX9_goesTruly 23 = .ok (.iadd, 1) := by decide +kernel
theorem dX9_goesTruly_24 : decode cX9_goesTruly 24 = .ok (.dup2, 1) := by decide +kernel
theorem dX9_goesTruly_25 : decode cX9_goesTruly 25 = .ok (.iaload, 1) := by decide +kernel
theorem dX9_goesTruly_26 : decode cX9_goesTruly 26 = .ok (.iconst 1, 1) := by decide +kernel
theorem dX9_goesTruly_27 : decode cX9_goesTruly 27 = .ok (.iadd, 1) := by decide +kernel
theorem dX9_goesTruly_28 : decode cX9_goesTruly 28 = .ok (.iastore, 1) := by decide +kernel
theorem dX9_goesTruly_29 : decode cX9_goesTruly 29 = .ok (.iconst 1, 1) := by decide +kernel
theorem dX9_goesTruly_30 : decode cX9_goesTruly 30 = .ok (.ireturn, 1) := by decide +kernel
theorem dX9_goesTruly_31 : decode cX9_goesTruly 31 = .ok (.aload_n 0, 1) := by decide +kernel
theorem dX9_goesTruly_32 : decode cX9_goesTruly 32 = .ok (.iconst 1, 1) := by decide +kernel
theorem dX9_goesTruly_33 : decode cX9_goesTruly 33 = .ok (.putfield 144, 3) := by decide +kernel
theorem dX9_goesTruly_36 : decode cX9_goesTruly 36 = .ok (.aload_n 0, 1) := by decide +kernel
theorem dX9_goesTruly_37 : decode cX9_goesTruly 37 = .ok (.getfield 21, 3) := by decide +kernel
theorem dX9_goesTruly_40 : decode cX9_goesTruly 40 = .ok (.iconst 0, 1) := by decide +kernel
theorem dX9_goesTruly_41 : decode cX9_goesTruly 41 = .ok (.iload_n 1, 1) := by decide +kernel
theorem dX9_goesTruly_42 : decode cX9_goesTruly 42 = .ok (.iastore, 1) := by decide +kernel
theorem dX9_goesTruly_43 : decode cX9_goesTruly 43 = .ok (.aload_n 0, 1) := by decide +kernel
theorem dX9_goesTruly_44 : decode cX9_goesTruly 44 = .ok (.getfield 21, 3) := by decide +kernel
theorem dX9_goesTruly_47 : decode cX9_goesTruly 47 = .ok (.iconst 1, 1) := by decide +kernel
theorem dX9_goesTruly_48 : decode cX9_goesTruly 48 = .ok (.aload_n 0, 1) := by decide +kernel
theorem dX9_goesTruly_49 : decode cX9_goesTruly 49 = .ok (.getfield 118, 3) := by decide +kernel
theorem dX9_goesTruly_52 : decode cX9_goesTruly 52 = .ok (.iastore, 1) := by decide +kernel
theorem dX9_goesTruly_53 : decode cX9_goesTruly 53 = .ok (.aload_n 0, 1) := by decide +kernel
theorem dX9_goesTruly_54 : decode cX9_goesTruly 54 = .ok (.getfield 21, 3) := by decide +kernel
theorem dX9_goesTruly_57 : decode cX9_goesTruly 57 = .ok (.iconst 2, 1) := by decide +kernel
theorem dX9_goesTruly_58 : decode cX9_goesTruly 58 = .ok (.aload_n 0, 1) := by decide +kernel
theorem dX9_goesTruly_59 : decode cX9_goesTruly 59 = .ok (.getfield 121, 3) := by decide +kernel
theorem dX9_goesTruly_62 : decode cX9_goesTruly 62 = .ok (.iastore, 1) := by decide +kernel
theorem dX9_goesTruly_63 : decode cX9_goesTruly 63 = .ok (.aload_n 0, 1) := by decide +kernel
theorem dX9_goesTruly_64 : decode cX9_goesTruly 64 = .ok (.getfield 21, 3) := by decide +kernel
theorem dX9_goesTruly_67 : decode cX9_goesTruly 67 = .ok (.iconst 3, 1) := by decide +kernel
theorem dX9_goesTruly_68 : decode cX9_goesTruly 68 = .ok (.aload_n 0, 1) := by decide +kernel
theorem dX9_goesTruly_69 : decode cX9_goesTruly 69 = .ok (.getfield 124, 3) := by decide +kernel
theorem dX9_goesTruly_72 : decode cX9_goesTruly 72 = .ok (.iastore, 1) := by decide +kernel
theorem dX9_goesTruly_73 : decode cX9_goesTruly 73 = .ok (.iconst 0, 1) := by decide +kernel
theorem dX9_goesTruly_74 : decode cX9_goesTruly 74 = .ok (.ireturn, 1) := by decide +kernel
theorem dX9_isUp_0 : decode cX9_isUp 0 = .ok (.aload_n 0, 1) := by decide +kernel
theorem dX9_isUp_1 : decode cX9_isUp 1 = .ok (.getfield 9, 3) := by decide +kernel
theorem dX9_isUp_4 : decode cX9_isUp 4 = .ok (.bipush 90, 2) := by decide +kernel
theorem dX9_isUp_6 : decode cX9_isUp 6 = .ok (.iload_n 1, 1) := by decide +kernel
theorem dX9_isUp_7 : decode cX9_isUp 7 = .ok (.iadd, 1) := by decide +kernel
theorem dX9_isUp_8 : decode cX9_isUp 8 = .ok (.iaload, 1) := by decide +kernel
theorem dX9_isUp_9 : decode cX9_isUp 9 = .ok (.iconst 1, 1) := by decide +kernel
theorem dX9_isUp_10 : decode cX9_isUp 10 = .ok (.if_icmp .ne 7, 3) := by decide +kernel
theorem dX9_isUp_13 : decode cX9_isUp 13 = .ok (.iconst 1, 1) := by decide +kernel
theorem dX9_isUp_14 : decode cX9_isUp 14 = .ok (.goto 4, 3) := by decide +kernel
theorem dX9_isUp_17 : decode cX9_isUp 17 = .ok (.iconst 0, 1) := by decide +kernel
theorem dX9_isUp_18 : decode cX9_isUp 18 = .ok (.ireturn, 1) := by decide +kernel
theorem dX9_lockOf_0 : decode cX9_lockOf 0 = .ok (.aload_n 0, 1) := by decide +kernel
theorem dX9_lockOf_1 : decode cX9_lockOf 1 = .ok (.iload_n 1, 1) := by decide +kernel
theorem dX9_lockOf_2 : decode cX9_lockOf 2 = .ok (.invokevirtual 148, 3) := by decide +kernel
theorem dX9_lockOf_5 : decode cX9_lockOf 5 = .ok (.ifCond .eq 15, 3) := by decide +kernel
theorem dX9_lockOf_8 : decode cX9_lockOf 8 = .ok (.aload_n 0, 1) := by decide +kernel
theorem dX9_lockOf_9 : decode cX9_lockOf 9 = .ok (.getfield 9, 3) := by decide +kernel
theorem dX9_lockOf_12 : decode cX9_lockOf 12 = .ok (.bipush 102, 2) := by decide +kernel
theorem dX9_lockOf_14 : decode cX9_lockOf 14 = .ok (.iload_n 1, 1) := by decide +kernel
theorem dX9_lockOf_15 : decode cX9_lockOf 15 = .ok (.iadd, 1) := by decide +kernel
theorem dX9_lockOf_16 : decode cX9_lockOf 16 = .ok (.iaload, 1) := by decide +kernel
theorem dX9_lockOf_17 : decode cX9_lockOf 17 = .ok (.goto 14, 3) := by decide +kernel
theorem dX9_lockOf_20 : decode cX9_lockOf 20 = .ok (.aload_n 0, 1) := by decide +kernel
theorem dX9_lockOf_21 : decode cX9_lockOf 21 = .ok (.getfield 9, 3) := by decide +kernel
theorem dX9_lockOf_24 : decode cX9_lockOf 24 = .ok (.bipush 102, 2) := by decide +kernel
theorem dX9_lockOf_26 : decode cX9_lockOf 26 = .ok (.iload_n 1, 1) := by decide +kernel
theorem dX9_lockOf_27 : decode cX9_lockOf 27 = .ok (.iadd, 1) := by decide +kernel
theorem dX9_lockOf_28 : decode cX9_lockOf 28 = .ok (.iaload, 1) := by decide +kernel
theorem dX9_lockOf_29 : decode cX9_lockOf 29 = .ok (.iconst 1, 1) := by decide +kernel
theorem dX9_lockOf_30 : decode cX9_lockOf 30 = .ok (.isub, 1) := by decide +kernel
theorem dX9_lockOf_31 : decode cX9_lockOf 31 = .ok (.istore_n 2, 1) := by decide +kernel
theorem dX9_lockOf_32 : decode cX9_lockOf 32 = .ok (.aload_n 0, 1) := by decide +kernel
theorem dX9_lockOf_33 : decode cX9_lockOf 33 = .ok (.iload_n 2, 1) := by decide +kernel
theorem dX9_lockOf_34 : decode cX9_lockOf 34 = .ok (.invokevirtual 50, 3) := by decide +kernel
theorem dX9_lockOf_37 : decode cX9_lockOf 37 = .ok (.ifCond .eq 7, 3) := by decide +kernel
theorem dX9_lockOf_40 : decode cX9_lockOf 40 = .ok (.iload_n 2, 1) := by decide +kernel
theorem dX9_lockOf_41 : decode cX9_lockOf 41 = .ok (.goto 5, 3) := by decide +kernel
theorem dX9_lockOf_44 : decode cX9_lockOf 44 = .ok (.bipush (-2), 2) := by decide +kernel
theorem dX9_lockOf_46 : decode cX9_lockOf 46 = .ok (.ireturn, 1) := by decide +kernel
theorem dX9_boatGoes_0 : decode cX9_boatGoes 0 = .ok (.aload_n 0, 1) := by decide +kernel
theorem dX9_boatGoes_1 : decode cX9_boatGoes 1 = .ok (.iload_n 1, 1) := by decide +kernel
theorem dX9_boatGoes_2 : decode cX9_boatGoes 2 = .ok (.invokevirtual 151, 3) := by decide +kernel
theorem dX9_boatGoes_5 : decode cX9_boatGoes 5 = .ok (.istore_n 3, 1) := by decide +kernel
theorem dX9_boatGoes_6 : decode cX9_boatGoes 6 = .ok (.aload_n 0, 1) := by decide +kernel
theorem dX9_boatGoes_7 : decode cX9_boatGoes 7 = .ok (.iload_n 1, 1) := by decide +kernel
theorem dX9_boatGoes_8 : decode cX9_boatGoes 8 = .ok (.invokevirtual 148, 3) := by decide +kernel
theorem dX9_boatGoes_11 : decode cX9_boatGoes 11 = .ok (.istore 4, 2) := by decide +kernel
theorem dX9_boatGoes_13 : decode cX9_boatGoes 13 = .ok (.iload_n 2, 1) := by decide +kernel
theorem dX9_boatGoes_14 : decode cX9_boatGoes 14 = .ok (.ifCond .eq 25, 3) := by decide +kernel
theorem dX9_boatGoes_17 : decode cX9_boatGoes 17 = .ok (.aload_n 0, 1) := by decide +kernel
theorem dX9_boatGoes_18 : decode cX9_boatGoes 18 = .ok (.iload_n 3, 1) := by decide +kernel
theorem dX9_boatGoes_19 : decode cX9_boatGoes 19 = .ok (.iload 4, 2) := by decide +kernel
theorem dX9_boatGoes_21 : decode cX9_boatGoes 21 = .ok (.aload_n 0, 1) := by decide +kernel
theorem dX9_boatGoes_22 : decode cX9_boatGoes 22 = .ok (.getfield 9, 3) := by decide +kernel
theorem dX9_boatGoes_25 : decode cX9_boatGoes 25 = .ok (.bipush 66, 2) := by decide +kernel
theorem dX9_boatGoes_27 : decode cX9_boatGoes 27 = .ok (.iload_n 1, 1) := by decide +kernel
theorem dX9_boatGoes_28 : decode cX9_boatGoes 28 = .ok (.iadd, 1) := by decide +kernel
theorem dX9_boatGoes_29 : decode cX9_boatGoes 29 = .ok (.iaload, 1) := by decide +kernel
theorem dX9_boatGoes_30 : decode cX9_boatGoes 30 = .ok (.invokevirtual 154, 3) := by decide +kernel
theorem dX9_boatGoes_33 : decode cX9_boatGoes 33 = .ok (.ifCond .ne 27, 3) := by decide +kernel
theorem dX9_boatGoes_36 : decode cX9_boatGoes 36 = .ok (.goto 22, 3) := by decide +kernel
theorem dX9_boatGoes_39 : decode cX9_boatGoes 39 = .ok (.aload_n 0, 1) := by decide +kernel
theorem dX9_boatGoes_40 : decode cX9_boatGoes 40 = .ok (.iload_n 3, 1) := by decide +kernel
theorem dX9_boatGoes_41 : decode cX9_boatGoes 41 = .ok (.iload 4, 2) := by decide +kernel
theorem dX9_boatGoes_43 : decode cX9_boatGoes 43 = .ok (.aload_n 0, 1) := by decide +kernel
theorem dX9_boatGoes_44 : decode cX9_boatGoes 44 = .ok (.getfield 9, 3) := by decide +kernel
theorem dX9_boatGoes_47 : decode cX9_boatGoes 47 = .ok (.bipush 66, 2) := by decide +kernel
theorem dX9_boatGoes_49 : decode cX9_boatGoes 49 = .ok (.iload_n 1, 1) := by decide +kernel
theorem dX9_boatGoes_50 : decode cX9_boatGoes 50 = .ok (.iadd, 1) := by decide +kernel
theorem dX9_boatGoes_51 : decode cX9_boatGoes 51 = .ok (.iaload, 1) := by decide +kernel
theorem dX9_boatGoes_52 : decode cX9_boatGoes 52 = .ok (.invokevirtual 140, 3) := by decide +kernel
theorem dX9_boatGoes_55 : decode cX9_boatGoes 55 = .ok (.ifCond .ne 5, 3) := by decide +kernel
theorem dX9_boatGoes_58 : decode cX9_boatGoes 58 = .ok (.iconst 0, 1) := by decide +kernel
theorem dX9_boatGoes_59 : decode cX9_boatGoes 59 = .ok (.ireturn, 1) := by decide +kernel
theorem dX9_boatGoes_60 : decode cX9_boatGoes 60 = .ok (.aload_n 0, 1) := by decide +kernel
theorem dX9_boatGoes_61 : decode cX9_boatGoes 61 = .ok (.getfield 9, 3) := by decide +kernel
theorem dX9_boatGoes_64 : decode cX9_boatGoes 64 = .ok (.bipush 102, 2) := by decide +kernel
theorem dX9_boatGoes_66 : decode cX9_boatGoes 66 = .ok (.iload_n 1, 1) := by decide +kernel
theorem dX9_boatGoes_67 : decode cX9_boatGoes 67 = .ok (.iadd, 1) := by decide +kernel
theorem dX9_boatGoes_68 : decode cX9_boatGoes 68 = .ok (.iload 4, 2) := by decide +kernel
theorem dX9_boatGoes_70 : decode cX9_boatGoes 70 = .ok (.ifCond .eq 9, 3) := by decide +kernel
theorem dX9_boatGoes_73 : decode cX9_boatGoes 73 = .ok (.iload_n 3, 1) := by decide +kernel
theorem dX9_boatGoes_74 : decode cX9_boatGoes 74 = .ok (.iconst 1, 1) := by decide +kernel
theorem dX9_boatGoes_75 : decode cX9_boatGoes 75 = .ok (.iadd, 1) := by decide +kernel
theorem dX9_boatGoes_76 : decode cX9_boatGoes 76 = .ok (.goto 4, 3) := by decide +kernel
theorem dX9_boatGoes_79 : decode cX9_boatGoes 79 = .ok (.iload_n 3, 1) := by decide +kernel
theorem dX9_boatGoes_80 : decode cX9_boatGoes 80 = .ok (.iastore, 1) := by decide +kernel
theorem dX9_boatGoes_81 : decode cX9_boatGoes 81 = .ok (.iconst 1, 1) := by decide +kernel
theorem dX9_boatGoes_82 : decode cX9_boatGoes 82 = .ok (.ireturn, 1) := by decide +kernel
theorem dX9_pass_0 : decode cX9_pass 0 = .ok (.aload_n 0, 1) := by decide +kernel
theorem dX9_pass_1 : decode cX9_pass 1 = .ok (.iload_n 1, 1) := by decide +kernel
theorem dX9_pass_2 : decode cX9_pass 2 = .ok (.invokevirtual 112, 3) := by decide +kernel
theorem dX9_pass_5 : decode cX9_pass 5 = .ok (.ifCond .ne 6, 3) := by decide +kernel
theorem dX9_pass_8 : decode cX9_pass 8 = .ok (.ldc 157, 2) := by decide +kernel
theorem dX9_pass_10 : decode cX9_pass 10 = .ok (.ireturn, 1) := by decide +kernel
theorem dX9_pass_11 : decode cX9_pass 11 = .ok (.aload_n 0, 1) := by decide +kernel
theorem dX9_pass_12 : decode cX9_pass 12 = .ok (.iload_n 1, 1) := by decide +kernel
theorem dX9_pass_13 : decode cX9_pass 13 = .ok (.invokevirtual 151, 3) := by decide +kernel
theorem dX9_pass_16 : decode cX9_pass 16 = .ok (.bipush (-2), 2) := by decide +kernel
theorem dX9_pass_18 : decode cX9_pass 18 = .ok (.if_icmp .ne 6, 3) := by decide +kernel
theorem dX9_pass_21 : decode cX9_pass 21 = .ok (.ldc 158, 2) := by decide +kernel
theorem dX9_pass_23 : decode cX9_pass 23 = .ok (.ireturn, 1) := by decide +kernel
theorem dX9_pass_24 : decode cX9_pass 24 = .ok (.aload_n 0, 1) := by decide +kernel
theorem dX9_pass_25 : decode cX9_pass 25 = .ok (.iload_n 1, 1) := by decide +kernel
theorem dX9_pass_26 : decode cX9_pass 26 = .ok (.iconst 1, 1) := by decide +kernel
theorem dX9_pass_27 : decode cX9_pass 27 = .ok (.invokevirtual 159, 3) := by decide +kernel
theorem dX9_pass_30 : decode cX9_pass 30 = .ok (.ifCond .eq 10, 3) := by decide +kernel
theorem dX9_pass_33 : decode cX9_pass 33 = .ok (.aload_n 0, 1) := by decide +kernel
theorem dX9_pass_34 : decode cX9_pass 34 = .ok (.getfield 137, 3) := by decide +kernel
theorem dX9_pass_37 : decode cX9_pass 37 = .ok (.goto 5, 3) := by decide +kernel
theorem dX9_pass_40 : decode cX9_pass 40 = .ok (.ldc 163, 2) := by decide +kernel
theorem dX9_pass_42 : decode cX9_pass 42 = .ok (.ireturn, 1) := by decide +kernel
theorem dX9_through_0 : decode cX9_through 0 = .ok (.aload_n 0, 1) := by decide +kernel
theorem dX9_through_1 : decode cX9_through 1 = .ok (.iload_n 1, 1) := by decide +kernel
theorem dX9_through_2 : decode cX9_through 2 = .ok (.invokevirtual 112, 3) := by decide +kernel
theorem dX9_through_5 : decode cX9_through 5 = .ok (.ifCond .ne 5, 3) := by decide +kernel
theorem dX9_through_8 : decode cX9_through 8 = .ok (.iconst (-1), 1) := by decide +kernel
theorem dX9_through_9 : decode cX9_through 9 = .ok (.ireturn, 1) := by decide +kernel
theorem dX9_through_10 : decode cX9_through 10 = .ok (.iconst 0, 1) := by decide +kernel
theorem dX9_through_11 : decode cX9_through 11 = .ok (.istore_n 2, 1) := by decide +kernel
theorem dX9_through_12 : decode cX9_through 12 = .ok (.aload_n 0, 1) := by decide +kernel
theorem dX9_through_13 : decode cX9_through 13 = .ok (.iload_n 1, 1) := by decide +kernel
theorem dX9_through_14 : decode cX9_through 14 = .ok (.invokevirtual 151, 3) := by decide +kernel
theorem dX9_through_17 : decode cX9_through 17 = .ok (.bipush (-2), 2) := by decide +kernel
theorem dX9_through_19 : decode cX9_through 19 = .ok (.if_icmp .eq 18, 3) := by decide +kernel
theorem dX9_through_22 : decode cX9_through 22 = .ok (.aload_n 0, 1) := by decide +kernel
theorem dX9_through_23 : decode cX9_through 23 = .ok (.iload_n 1, 1) := by decide +kernel
theorem dX9_through_24 : decode cX9_through 24 = .ok (.iconst 1, 1) := by decide +kernel
theorem dX9_through_25 : decode cX9_through 25 = .ok (.invokevirtual 159, 3) := by decide +kernel
theorem dX9_through_28 : decode cX9_through 28 = .ok (.ifCond .eq 9, 3) := by decide +kernel
theorem dX9_through_31 : decode cX9_through 31 = .ok (.iinc 2 1, 3) := by decide +kernel
theorem dX9_through_34 : decode cX9_through 34 = .ok (.goto (-22), 3) := by decide +kernel
theorem dX9_through_37 : decode cX9_through 37 = .ok (.iload_n 2, 1) := by decide +kernel
theorem dX9_through_38 : decode cX9_through 38 = .ok (.ireturn, 1) := by decide +kernel
theorem dX9_costs_0 : decode cX9_costs 0 = .ok (.aload_n 0, 1) := by decide +kernel
theorem dX9_costs_1 : decode cX9_costs 1 = .ok (.iload_n 1, 1) := by decide +kernel
theorem dX9_costs_2 : decode cX9_costs 2 = .ok (.invokevirtual 112, 3) := by decide +kernel
theorem dX9_costs_5 : decode cX9_costs 5 = .ok (.ifCond .ne 6, 3) := by decide +kernel
theorem dX9_costs_8 : decode cX9_costs 8 = .ok (.ldc 157, 2) := by decide +kernel
theorem dX9_costs_10 : decode cX9_costs 10 = .ok (.ireturn, 1) := by decide +kernel
theorem dX9_costs_11 : decode cX9_costs 11 = .ok (.aload_n 0, 1) := by decide +kernel
theorem dX9_costs_12 : decode cX9_costs 12 = .ok (.getfield 9, 3) := by decide +kernel
theorem dX9_costs_15 : decode cX9_costs 15 = .ok (.aload_n 0, 1) := by decide +kernel
theorem dX9_costs_16 : decode cX9_costs 16 = .ok (.getfield 18, 3) := by decide +kernel
theorem dX9_costs_19 : decode cX9_costs 19 = .ok (.invokestatic 105, 3) := by decide +kernel
theorem dX9_costs_22 : decode cX9_costs 22 = .ok (.bipush 24, 2) := by decide +kernel
theorem dX9_costs_24 : decode cX9_costs 24 = .ok (.aload_n 0, 1) := by decide +kernel
theorem dX9_costs_25 : decode cX9_costs 25 = .ok (.getfield 9, 3) := by decide +kernel
theorem dX9_costs_28 : decode cX9_costs 28 = .ok (.bipush 53, 2) := by decide +kernel
theorem dX9_costs_30 : decode cX9_costs 30 = .ok (.iaload, 1) := by decide +kernel
theorem dX9_costs_31 : decode cX9_costs 31 = .ok (.iadd, 1) := by decide +kernel
theorem dX9_costs_32 : decode cX9_costs 32 = .ok (.istore_n 2, 1) := by decide +kernel
theorem dX9_costs_33 : decode cX9_costs 33 = .ok (.aload_n 0, 1) := by decide +kernel
theorem dX9_costs_34 : decode cX9_costs 34 = .ok (.getfield 9, 3) := by decide +kernel
theorem dX9_costs_37 : decode cX9_costs 37 = .ok (.iload_n 2, 1) := by decide +kernel
theorem dX9_costs_38 : decode cX9_costs 38 = .ok (.iaload, 1) := by decide +kernel
theorem dX9_costs_39 : decode cX9_costs 39 = .ok (.istore_n 3, 1) := by decide +kernel
theorem dX9_costs_40 : decode cX9_costs 40 = .ok (.iconst 1, 1) := by decide +kernel
theorem dX9_costs_41 : decode cX9_costs 41 = .ok (.istore 4, 2) := by decide +kernel
theorem dX9_costs_43 : decode cX9_costs 43 = .ok (.iload 4, 2) := by decide +kernel
theorem dX9_costs_45 : decode cX9_costs 45 = .ok (.ifCond .eq 24, 3) := by decide +kernel
theorem dX9_costs_48 : decode cX9_costs 48 = .ok (.aload_n 0, 1) := by decide +kernel
theorem dX9_costs_49 : decode cX9_costs 49 = .ok (.iload_n 1, 1) := by decide +kernel
theorem dX9_costs_50 : decode cX9_costs 50 = .ok (.invokevirtual 151, 3) := by decide +kernel
theorem dX9_costs_53 : decode cX9_costs 53 = .ok (.bipush (-2), 2) := by decide +kernel
theorem dX9_costs_55 : decode cX9_costs 55 = .ok (.if_icmp .eq 14, 3) := by decide +kernel
theorem dX9_costs_58 : decode cX9_costs 58 = .ok (.aload_n 0, 1) := by decide +kernel
theorem dX9_costs_59 : decode cX9_costs 59 = .ok (.iload_n 1, 1) := by decide +kernel
theorem dX9_costs_60 : decode cX9_costs 60 = .ok (.iconst 0, 1) := by decide +kernel
theorem dX9_costs_61 : decode cX9_costs 61 = .ok (.invokevirtual 159, 3) := by decide +kernel
theorem dX9_costs_64 : decode cX9_costs 64 = .ok (.istore 4, 2) := by decide +kernel
theorem dX9_costs_66 : decode cX9_costs 66 = .ok (.goto (-23), 3) := by decide +kernel
theorem dX9_costs_69 : decode cX9_costs 69 = .ok (.iload_n 3, 1) := by decide +kernel
theorem dX9_costs_70 : decode cX9_costs 70 = .ok (.aload_n 0, 1) := by decide +kernel
theorem dX9_costs_71 : decode cX9_costs 71 = .ok (.getfield 9, 3) := by decide +kernel
theorem dX9_costs_74 : decode cX9_costs 74 = .ok (.iload_n 2, 1) := by decide +kernel
theorem dX9_costs_75 : decode cX9_costs 75 = .ok (.iaload, 1) := by decide +kernel
theorem dX9_costs_76 : decode cX9_costs 76 = .ok (.isub, 1) := by decide +kernel
theorem dX9_costs_77 : decode cX9_costs 77 = .ok (.istore 5, 2) := by decide +kernel
theorem dX9_costs_79 : decode cX9_costs 79 = .ok (.aload_n 0, 1) := by decide +kernel
theorem dX9_costs_80 : decode cX9_costs 80 = .ok (.getfield 18, 3) := by decide +kernel
theorem dX9_costs_83 : decode cX9_costs 83 = .ok (.aload_n 0, 1) := by decide +kernel
theorem dX9_costs_84 : decode cX9_costs 84 = .ok (.getfield 9, 3) := by decide +kernel
theorem dX9_costs_87 : decode cX9_costs 87 = .ok (.invokestatic 105, 3) := by decide +kernel
theorem dX9_costs_90 : decode cX9_costs 90 = .ok (.iload 5, 2) := by decide +kernel
theorem dX9_costs_92 : decode cX9_costs 92 = .ok (.ireturn, 1) := by decide +kernel
theorem dX9_why_0 : decode cX9_why 0 = .ok (.iload_n 1, 1) := by decide +kernel
theorem dX9_why_1 : decode cX9_why 1 = .ok (.iconst 0, 1) := by decide +kernel
theorem dX9_why_2 : decode cX9_why 2 = .ok (.iconst 3, 1) := by decide +kernel
theorem dX9_why_3 : decode cX9_why 3 = .ok (.invokestatic 46, 3) := by decide +kernel
theorem dX9_why_6 : decode cX9_why 6 = .ok (.ifCond .ne 5, 3) := by decide +kernel
theorem dX9_why_9 : decode cX9_why 9 = .ok (.iconst (-1), 1) := by decide +kernel
theorem dX9_why_10 : decode cX9_why 10 = .ok (.ireturn, 1) := by decide +kernel
theorem dX9_why_11 : decode cX9_why 11 = .ok (.aload_n 0, 1) := by decide +kernel
theorem dX9_why_12 : decode cX9_why 12 = .ok (.getfield 144, 3) := by decide +kernel
theorem dX9_why_15 : decode cX9_why 15 = .ok (.ifCond .eq 12, 3) := by decide +kernel
theorem dX9_why_18 : decode cX9_why 18 = .ok (.aload_n 0, 1) := by decide +kernel
theorem dX9_why_19 : decode cX9_why 19 = .ok (.getfield 21, 3) := by decide +kernel
theorem dX9_why_22 : decode cX9_why 22 = .ok (.iload_n 1, 1) := by decide +kernel
theorem dX9_why_23 : decode cX9_why 23 = .ok (.iaload, 1) := by decide +kernel
theorem dX9_why_24 : decode cX9_why 24 = .ok (.goto 5, 3) := by decide +kernel
theorem dX9_why_27 : decode cX9_why 27 = .ok (.bipush (-2), 2) := by decide +kernel
theorem dX9_why_29 : decode cX9_why 29 = .ok (.ireturn, 1) := by decide +kernel
theorem dX9_queues_0 : decode cX9_queues 0 = .ok (.iconst 0, 1) := by decide +kernel
theorem dX9_queues_1 : decode cX9_queues 1 = .ok (.istore 4, 2) := by decide +kernel
theorem dX9_queues_3 : decode cX9_queues 3 = .ok (.iconst 0, 1) := by decide +kernel
theorem dX9_queues_4 : decode cX9_queues 4 = .ok (.istore 5, 2) := by decide +kernel
theorem dX9_queues_6 : decode cX9_queues 6 = .ok (.iload 5, 2) := by decide +kernel
theorem dX9_queues_8 : decode cX9_queues 8 = .ok (.aload_n 0, 1) := by decide +kernel
theorem dX9_queues_9 : decode cX9_queues 9 = .ok (.getfield 9, 3) := by decide +kernel
theorem dX9_queues_12 : decode cX9_queues 12 = .ok (.bipush 114, 2) := by decide +kernel
theorem dX9_queues_14 : decode cX9_queues 14 = .ok (.iaload, 1) := by decide +kernel
theorem dX9_queues_15 : decode cX9_queues 15 = .ok (.if_icmp .ge 101, 3) := by decide +kernel
theorem dX9_queues_18 : decode cX9_queues 18 = .ok (.aload_n 0, 1) := by decide +kernel
theorem dX9_queues_19 : decode cX9_queues 19 = .ok (.getfield 9, 3) := by decide +kernel
theorem dX9_queues_22 : decode cX9_queues 22 = .ok (.bipush 102, 2) := by decide +kernel
theorem dX9_queues_24 : decode cX9_queues 24 = .ok (.iload 5, 2) := by decide +kernel
theorem dX9_queues_26 : decode cX9_queues 26 = .ok (.iadd, 1) := by decide +kernel
theorem dX9_queues_27 : decode cX9_queues 27 = .ok (.iaload, 1) := by decide +kernel
theorem dX9_queues_28 : decode cX9_queues 28 = .ok (.iload_n 1, 1) := by decide +kernel
theorem dX9_queues_29 : decode cX9_queues 29 = .ok (.if_icmp .ne 81, 3) := by decide +kernel
theorem dX9_queues_32 : decode cX9_queues 32 = .ok (.aload_n 0, 1) := by decide +kernel
theorem dX9_queues_33 : decode cX9_queues 33 = .ok (.getfield 9, 3) := by decide +kernel
theorem dX9_queues_36 : decode cX9_queues 36 = .ok (.bipush 90, 2) := by decide +kernel
theorem dX9_queues_38 : decode cX9_queues 38 = .ok (.iload 5, 2) := by decide +kernel
theorem dX9_queues_40 : decode cX9_queues 40 = .ok (.iadd, 1) := by decide +kernel
theorem dX9_queues_41 : decode cX9_queues 41 = .ok (.iaload, 1) := by decide +kernel
theorem dX9_queues_42 : decode cX9_queues 42 = .ok (.iload_n 2, 1) := by decide +kernel
theorem dX9_queues_43 : decode cX9_queues 43 = .ok (.if_icmp .eq 6, 3) := by decide +kernel
theorem dX9_queues_46 : decode cX9_queues 46 = .ok (.goto 64, 3) := by decide +kernel
theorem dX9_queues_49 : decode cX9_queues 49 = .ok (.iload 4, 2) := by decide +kernel
theorem dX9_queues_51 : decode cX9_queues 51 = .ok (.istore 6, 2) := by decide +kernel
theorem dX9_queues_53 : decode cX9_queues 53 = .ok (.iload 6, 2) := by decide +kernel
theorem dX9_queues_55 : decode cX9_queues 55 = .ok (.ifCond .le 46, 3) := by decide +kernel
theorem dX9_queues_58 : decode cX9_queues 58 = .ok (.aload_n 0, 1) := by decide +kernel
theorem dX9_queues_59 : decode cX9_queues 59 = .ok (.getfield 9, 3) := by decide +kernel
theorem dX9_queues_62 : decode cX9_queues 62 = .ok (.bipush 78, 2) := by decide +kernel
theorem dX9_queues_64 : decode cX9_queues 64 = .ok (.aload_n 3, 1) := by decide +kernel
theorem dX9_queues_65 : decode cX9_queues 65 = .ok (.iload 6, 2) := by decide +kernel
theorem dX9_queues_67 : decode cX9_queues 67 = .ok (.iconst 1, 1) := by decide +kernel
theorem dX9_queues_68 : decode cX9_queues 68 = .ok (.isub, 1) := by decide +kernel
theorem dX9_queues_69 : decode cX9_queues 69 = .ok (.iaload, 1) := by decide +kernel
theorem dX9_queues_70 : decode cX9_queues 70 = .ok (.iadd, 1) := by decide +kernel
theorem dX9_queues_71 : decode cX9_queues 71 = .ok (.iaload, 1) := by decide +kernel
theorem dX9_queues_72 : decode cX9_queues 72 = .ok (.aload_n 0, 1) := by decide +kernel
theorem dX9_queues_73 : decode cX9_queues 73 = .ok (.getfield 9, 3) := by decide +kernel
theorem dX9_queues_76 : decode cX9_queues 76 = .ok (.bipush 78, 2) := by decide +kernel
theorem dX9_queues_78 : decode cX9_queues 78 = .ok (.iload 5, 2) := by decide +kernel
theorem dX9_queues_80 : decode cX9_queues 80 = .ok (.iadd, 1) := by decide +kernel
theorem dX9_queues_81 : decode cX9_queues 81 = .ok (.iaload, 1) := by decide +kernel
theorem dX9_queues_82 : decode cX9_queues 82 = .ok (.if_icmp .ge 19, 3) := by decide +kernel
theorem dX9_queues_85 : decode cX9_queues 85 = .ok (.aload_n 3, 1) := by decide +kernel
theorem dX9_queues_86 : decode cX9_queues 86 = .ok (.iload 6, 2) := by decide +kernel
theorem dX9_queues_88 : decode cX9_queues 88 = .ok (.aload_n 3, 1) := by decide +kernel
theorem dX9_queues_89 : decode cX9_queues 89 = .ok (.iload 6, 2) := by decide +kernel
theorem dX9_queues_91 : decode cX9_queues 91 = .ok (.iconst 1, 1) := by decide +kernel
theorem dX9_queues_92 : decode cX9_queues 92 = .ok (.isub, 1) := by decide +kernel
theorem dX9_queues_93 : decode cX9_queues 93 = .ok (.iaload, 1) := by decide +kernel
theorem dX9_queues_94 : decode cX9_queues 94 = .ok (.iastore, 1) := by decide +kernel
theorem dX9_queues_95 : decode cX9_queues 95 = .ok (.iinc 6 (-1), 3) := by decide +kernel
theorem dX9_queues_98 : decode cX9_queues 98 = .ok (.goto (-45), 3) := by decide +kernel
theorem dX9_queues_101 : decode cX9_queues 101 = .ok (.aload_n 3, 1) := by decide +kernel
theorem dX9_queues_102 : decode cX9_queues 102 = .ok (.iload 6, 2) := by decide +kernel
theorem dX9_queues_104 : decode cX9_queues 104 = .ok (.iload 5, 2) := by decide +kernel
theorem dX9_queues_106 : decode cX9_queues 106 = .ok (.iastore, 1) := by decide +kernel
theorem dX9_queues_107 : decode cX9_queues 107 = .ok (.iinc 4 1, 3) := by decide +kernel
theorem dX9_queues_110 : decode cX9_queues 110 = .ok (.iinc 5 1, 3) := by decide +kernel
theorem dX9_queues_113 : decode cX9_queues 113 = .ok (.goto (-107), 3) := by decide +kernel
theorem dX9_queues_116 : decode cX9_queues 116 = .ok (.iload 4, 2) := by decide +kernel
theorem dX9_queues_118 : decode cX9_queues 118 = .ok (.ireturn, 1) := by decide +kernel
theorem dX9_queuesOf_0 : decode cX9_queuesOf 0 = .ok (.aload_n 0, 1) := by decide +kernel
theorem dX9_queuesOf_1 : decode cX9_queuesOf 1 = .ok (.aload_n 0, 1) := by decide +kernel
theorem dX9_queuesOf_2 : decode cX9_queuesOf 2 = .ok (.iload_n 1, 1) := by decide +kernel
theorem dX9_queuesOf_3 : decode cX9_queuesOf 3 = .ok (.iconst 1, 1) := by decide +kernel
theorem dX9_queuesOf_4 : decode cX9_queuesOf 4 = .ok (.aload_n 0, 1) := by decide +kernel
theorem dX9_queuesOf_5 : decode cX9_queuesOf 5 = .ok (.getfield 30, 3) := by decide +kernel
theorem dX9_queuesOf_8 : decode cX9_queuesOf 8 = .ok (.invokevirtual 164, 3) := by decide +kernel
theorem dX9_queuesOf_11 : decode cX9_queuesOf 11 = .ok (.putfield 168, 3) := by decide +kernel
theorem dX9_queuesOf_14 : decode cX9_queuesOf 14 = .ok (.aload_n 0, 1) := by decide +kernel
theorem dX9_queuesOf_15 : decode cX9_queuesOf 15 = .ok (.aload_n 0, 1) := by decide +kernel
theorem dX9_queuesOf_16 : decode cX9_queuesOf 16 = .ok (.iload_n 1, 1) := by decide +kernel
theorem dX9_queuesOf_17 : decode cX9_queuesOf 17 = .ok (.iconst 1, 1) := by decide +kernel
theorem dX9_queuesOf_18 : decode cX9_queuesOf 18 = .ok (.iadd, 1) := by decide +kernel
theorem dX9_queuesOf_19 : decode cX9_queuesOf 19 = .ok (.iconst 0, 1) := by decide +kernel
theorem dX9_queuesOf_20 : decode cX9_queuesOf 20 = .ok (.aload_n 0, 1) := by decide +kernel
theorem dX9_queuesOf_21 : decode cX9_queuesOf 21 = .ok (.getfield 33, 3) := by decide +kernel
theorem dX9_queuesOf_24 : decode cX9_queuesOf 24 = .ok (.invokevirtual 164, 3) := by decide +kernel
theorem dX9_queuesOf_27 : decode cX9_queuesOf 27 = .ok (.putfield 171, 3) := by decide +kernel
theorem dX9_queuesOf_30 : decode cX9_queuesOf 30 = .ok (.return_, 1) := by decide +kernel
theorem dX9_queue_0 : decode cX9_queue 0 = .ok (.aload_n 0, 1) := by decide +kernel
theorem dX9_queue_1 : decode cX9_queue 1 = .ok (.iload_n 1, 1) := by decide +kernel
theorem dX9_queue_2 : decode cX9_queue 2 = .ok (.invokevirtual 50, 3) := by decide +kernel
theorem dX9_queue_5 : decode cX9_queue 5 = .ok (.ifCond .eq 9, 3) := by decide +kernel
theorem dX9_queue_8 : decode cX9_queue 8 = .ok (.iload_n 2, 1) := by decide +kernel
theorem dX9_queue_9 : decode cX9_queue 9 = .ok (.bipush (-2), 2) := by decide +kernel
theorem dX9_queue_11 : decode cX9_queue 11 = .ok (.if_icmp .ge 5, 3) := by decide +kernel
theorem dX9_queue_14 : decode cX9_queue 14 = .ok (.iconst (-1), 1) := by decide +kernel
theorem dX9_queue_15 : decode cX9_queue 15 = .ok (.ireturn, 1) := by decide +kernel
theorem dX9_queue_16 : decode cX9_queue 16 = .ok (.aload_n 0, 1) := by decide +kernel
theorem dX9_queue_17 : decode cX9_queue 17 = .ok (.iload_n 1, 1) := by decide +kernel
theorem dX9_queue_18 : decode cX9_queue 18 = .ok (.invokevirtual 174, 3) := by decide +kernel
theorem dX9_queue_21 : decode cX9_queue 21 = .ok (.iload_n 2, 1) := by decide +kernel
theorem dX9_queue_22 : decode cX9_queue 22 = .ok (.ifCond .ge 20, 3) := by decide +kernel
theorem dX9_queue_25 : decode cX9_queue 25 = .ok (.iload_n 2, 1) := by decide +kernel
theorem dX9_queue_26 : decode cX9_queue 26 = .ok (.iconst (-1), 1) := by decide +kernel
theorem dX9_queue_27 : decode cX9_queue 27 = .ok (.if_icmp .ne 10, 3) := by decide +kernel
theorem dX9_queue_30 : decode cX9_queue 30 = .ok (.aload_n 0, 1) := by decide +kernel
theorem dX9_queue_31 : decode cX9_queue 31 = .ok (.getfield 168, 3) := by decide +kernel
theorem dX9_queue_34 : decode cX9_queue 34 = .ok (.goto 7, 3) := by decide +kernel
theorem dX9_queue_37 : decode cX9_queue 37 = .ok (.aload_n 0, 1) := by decide +kernel
theorem dX9_queue_38 : decode cX9_queue 38 = .ok (.getfield 171, 3) := by decide +kernel
theorem dX9_queue_41 : decode cX9_queue 41 = .ok (.ireturn, 1) := by decide +kernel
theorem dX9_queue_42 : decode cX9_queue 42 = .ok (.iload_n 2, 1) := by decide +kernel
theorem dX9_queue_43 : decode cX9_queue 43 = .ok (.bipush 20, 2) := by decide +kernel
theorem dX9_queue_45 : decode cX9_queue 45 = .ok (.if_icmp .ge 23, 3) := by decide +kernel
theorem dX9_queue_48 : decode cX9_queue 48 = .ok (.iload_n 2, 1) := by decide +kernel
theorem dX9_queue_49 : decode cX9_queue 49 = .ok (.aload_n 0, 1) := by decide +kernel
theorem dX9_queue_50 : decode cX9_queue 50 = .ok (.getfield 168, 3) := by decide +kernel
theorem dX9_queue_53 : decode cX9_queue 53 = .ok (.if_icmp .ge 12, 3) := by decide +kernel
theorem dX9_queue_56 : decode cX9_queue 56 = .ok (.aload_n 0, 1) := by decide +kernel
theorem dX9_queue_57 : decode cX9_queue 57 = .ok (.getfield 30, 3) := by decide +kernel
theorem dX9_queue_60 : decode cX9_queue 60 = .ok (.iload_n 2, 1) := by decide +kernel
theorem dX9_queue_61 : decode cX9_queue 61 = .ok (.iaload, 1) := by decide +kernel
theorem dX9_queue_62 : decode cX9_queue 62 = .ok (.goto 5, 3) := by decide +kernel
theorem dX9_queue_65 : decode cX9_queue 65 = .ok (.bipush (-2), 2) := by decide +kernel
theorem dX9_queue_67 : decode cX9_queue 67 = .ok (.ireturn, 1) := by decide +kernel
theorem dX9_queue_68 : decode cX9_queue 68 = .ok (.iload_n 2, 1) := by decide +kernel
theorem dX9_queue_69 : decode cX9_queue 69 = .ok (.bipush 20, 2) := by decide +kernel
theorem dX9_queue_71 : decode cX9_queue 71 = .ok (.isub, 1) := by decide +kernel
theorem dX9_queue_72 : decode cX9_queue 72 = .ok (.aload_n 0, 1) := by decide +kernel
theorem dX9_queue_73 : decode cX9_queue 73 = .ok (.getfield 171, 3) := by decide +kernel
theorem dX9_queue_76 : decode cX9_queue 76 = .ok (.if_icmp .ge 15, 3) := by decide +kernel
theorem dX9_queue_79 : decode cX9_queue 79 = .ok (.aload_n 0, 1) := by decide +kernel
theorem dX9_queue_80 : decode cX9_queue 80 = .ok (.getfield 33, 3) := by decide +kernel
theorem dX9_queue_83 : decode cX9_queue 83 = .ok (.iload_n 2, 1) := by decide +kernel
theorem dX9_queue_84 : decode cX9_queue 84 = .ok (.bipush 20, 2) := by decide +kernel
theorem dX9_queue_86 : decode cX9_queue 86 = .ok (.isub, 1) := by decide +kernel
theorem dX9_queue_87 : decode cX9_queue 87 = .ok (.iaload, 1) := by decide +kernel
theorem dX9_queue_88 : decode cX9_queue 88 = .ok (.goto 5, 3) := by decide +kernel
theorem dX9_queue_91 : decode cX9_queue 91 = .ok (.bipush (-2), 2) := by decide +kernel
theorem dX9_queue_93 : decode cX9_queue 93 = .ok (.ireturn, 1) := by decide +kernel
theorem dX9_weaves_0 : decode cX9_weaves 0 = .ok (.iload_n 2, 1) := by decide +kernel
theorem dX9_weaves_1 : decode cX9_weaves 1 = .ok (.bipush 6, 2) := by decide +kernel
theorem dX9_weaves_3 : decode cX9_weaves 3 = .ok (.aload_n 0, 1) := by decide +kernel
theorem dX9_weaves_4 : decode cX9_weaves 4 = .ok (.getfield 168, 3) := by decide +kernel
theorem dX9_weaves_7 : decode cX9_weaves 7 = .ok (.invokestatic 177, 3) := by decide +kernel
theorem dX9_weaves_10 : decode cX9_weaves 10 = .ok (.if_icmp .ne 74, 3) := by decide +kernel
theorem dX9_weaves_13 : decode cX9_weaves 13 = .ok (.iload_n 3, 1) := by decide +kernel
theorem dX9_weaves_14 : decode cX9_weaves 14 = .ok (.bipush 6, 2) := by decide +kernel
theorem dX9_weaves_16 : decode cX9_weaves 16 = .ok (.aload_n 0, 1) := by decide +kernel
theorem dX9_weaves_17 : decode cX9_weaves 17 = .ok (.getfield 171, 3) := by decide +kernel
theorem dX9_weaves_20 : decode cX9_weaves 20 = .ok (.invokestatic 177, 3) := by decide +kernel
theorem dX9_weaves_23 : decode cX9_weaves 23 = .ok (.if_icmp .ne 61, 3) := by decide +kernel
theorem dX9_weaves_26 : decode cX9_weaves 26 = .ok (.aload_n 0, 1) := by decide +kernel
theorem dX9_weaves_27 : decode cX9_weaves 27 = .ok (.dup, 1) := by decide +kernel
theorem dX9_weaves_28 : decode cX9_weaves 28 = .ok (.getfield 182, 3) := by decide +kernel
theorem dX9_weaves_31 : decode cX9_weaves 31 = .ok (.iconst 1, 1) := by decide +kernel
theorem dX9_weaves_32 : decode cX9_weaves 32 = .ok (.iadd, 1) := by decide +kernel
theorem dX9_weaves_33 : decode cX9_weaves 33 = .ok (.putfield 182, 3) := by decide +kernel
theorem dX9_weaves_36 : decode cX9_weaves 36 = .ok (.iload 4, 2) := by decide +kernel
theorem dX9_weaves_38 : decode cX9_weaves 38 = .ok (.aload_n 0, 1) := by decide +kernel
theorem dX9_weaves_39 : decode cX9_weaves 39 = .ok (.getfield 185, 3) := by decide +kernel
theorem dX9_weaves_42 : decode cX9_weaves 42 = .ok (.if_icmp .lt 4, 3) := by decide +kernel
theorem dX9_weaves_45 : decode cX9_weaves 45 = .ok (.return_, 1) := by decide +kernel
theorem dX9_weaves_46 : decode cX9_weaves 46 = .ok (.aload_n 0, 1) := by decide +kernel
theorem dX9_weaves_47 : decode cX9_weaves 47 = .ok (.iload 4, 2) := by decide +kernel
theorem dX9_weaves_49 : decode cX9_weaves 49 = .ok (.putfield 185, 3) := by decide +kernel
theorem dX9_weaves_52 : decode cX9_weaves 52 = .ok (.iconst 0, 1) := by decide +kernel
theorem dX9_weaves_53 : decode cX9_weaves 53 = .ok (.istore 5, 2) := by decide +kernel
theorem dX9_weaves_55 : decode cX9_weaves 55 = .ok (.iload 5, 2) := by decide +kernel
theorem dX9_weaves_57 : decode cX9_weaves 57 = .ok (.iload_n 2, 1) := by decide +kernel
theorem dX9_weaves_58 : decode cX9_weaves 58 = .ok (.iload_n 3, 1) := by decide +kernel
theorem dX9_weaves_59 : decode cX9_weaves 59 = .ok (.iadd, 1) := by decide +kernel
theorem dX9_weaves_60 : decode cX9_weaves 60 = .ok (.if_icmp .ge 23, 3) := by decide +kernel
theorem dX9_weaves_63 : decode cX9_weaves 63 = .ok (.aload_n 0, 1) := by decide +kernel
theorem dX9_weaves_64 : decode cX9_weaves 64 = .ok (.getfield 39, 3) := by decide +kernel
theorem dX9_weaves_67 : decode cX9_weaves 67 = .ok (.iload 5, 2) := by decide +kernel
theorem dX9_weaves_69 : decode cX9_weaves 69 = .ok (.aload_n 0, 1) := by decide +kernel
theorem dX9_weaves_70 : decode cX9_weaves 70 = .ok (.getfield 36, 3) := by decide +kernel
theorem dX9_weaves_73 : decode cX9_weaves 73 = .ok (.iload 5, 2) := by decide +kernel
theorem dX9_weaves_75 : decode cX9_weaves 75 = .ok (.iaload, 1) := by decide +kernel
theorem dX9_weaves_76 : decode cX9_weaves 76 = .ok (.iastore, 1) := by decide +kernel
theorem dX9_weaves_77 : decode cX9_weaves 77 = .ok (.iinc 5 1, 3) := by decide +kernel
theorem dX9_weaves_80 : decode cX9_weaves 80 = .ok (.goto (-25), 3) := by decide +kernel
theorem dX9_weaves_83 : decode cX9_weaves 83 = .ok (.return_, 1) := by decide +kernel
theorem dX9_weaves_84 : decode cX9_weaves 84 = .ok (.aload_n 0, 1) := by decide +kernel
theorem dX9_weaves_85 : decode cX9_weaves 85 = .ok (.getfield 9, 3) := by decide +kernel
theorem dX9_weaves_88 : decode cX9_weaves 88 = .ok (.bipush 24, 2) := by decide +kernel
theorem dX9_weaves_90 : decode cX9_weaves 90 = .ok (.iload_n 1, 1) := by decide +kernel
theorem dX9_weaves_91 : decode cX9_weaves 91 = .ok (.iadd, 1) := by decide +kernel
theorem dX9_weaves_92 : decode cX9_weaves 92 = .ok (.iaload, 1) := by decide +kernel
theorem dX9_weaves_93 : decode cX9_weaves 93 = .ok (.istore 5, 2) := by decide +kernel
theorem dX9_weaves_95 : decode cX9_weaves 95 = .ok (.aload_n 0, 1) := by decide +kernel
theorem dX9_weaves_96 : decode cX9_weaves 96 = .ok (.getfield 9, 3) := by decide +kernel
theorem dX9_weaves_99 : decode cX9_weaves 99 = .ok (.bipush 24, 2) := by decide +kernel
theorem dX9_weaves_101 : decode cX9_weaves 101 = .ok (.iload_n 1, 1) := by decide +kernel
theorem dX9_weaves_102 : decode cX9_weaves 102 = .ok (.iadd, 1) := by decide +kernel
theorem dX9_weaves_103 : decode cX9_weaves 103 = .ok (.iconst 1, 1) := by decide +kernel
theorem dX9_weaves_104 : decode cX9_weaves 104 = .ok (.iadd, 1) := by decide +kernel
theorem dX9_weaves_105 : decode cX9_weaves 105 = .ok (.iaload, 1) := by decide +kernel
theorem dX9_weaves_106 : decode cX9_weaves 106 = .ok (.istore 6, 2) := by decide +kernel
theorem dX9_weaves_108 : decode cX9_weaves 108 = .ok (.aload_n 0, 1) := by decide +kernel
theorem dX9_weaves_109 : decode cX9_weaves 109 = .ok (.getfield 9, 3) := by decide +kernel
theorem dX9_weaves_112 : decode cX9_weaves 112 = .ok (.bipush 12, 2) := by decide +kernel
theorem dX9_weaves_114 : decode cX9_weaves 114 = .ok (.iload_n 1, 1) := by decide +kernel
theorem dX9_weaves_115 : decode cX9_weaves 115 = .ok (.iadd, 1) := by decide +kernel
theorem dX9_weaves_116 : decode cX9_weaves 116 = .ok (.iaload, 1) := by decide +kernel
theorem dX9_weaves_117 : decode cX9_weaves 117 = .ok (.istore 7, 2) := by decide +kernel
theorem dX9_weaves_119 : decode cX9_weaves 119 = .ok (.aload_n 0, 1) := by decide +kernel
theorem dX9_weaves_120 : decode cX9_weaves 120 = .ok (.getfield 9, 3) := by decide +kernel
theorem dX9_weaves_123 : decode cX9_weaves 123 = .ok (.bipush 18, 2) := by decide +kernel
theorem dX9_weaves_125 : decode cX9_weaves 125 = .ok (.iload_n 1, 1) := by decide +kernel
theorem dX9_weaves_126 : decode cX9_weaves 126 = .ok (.iadd, 1) := by decide +kernel
theorem dX9_weaves_127 : decode cX9_weaves 127 = .ok (.iaload, 1) := by decide +kernel
theorem dX9_weaves_128 : decode cX9_weaves 128 = .ok (.istore 8, 2) := by decide +kernel
theorem dX9_weaves_130 : decode cX9_weaves 130 = .ok (.iconst 0, 1) := by decide +kernel
theorem dX9_weaves_131 : decode cX9_weaves 131 = .ok (.istore 9, 2) := by decide +kernel
theorem dX9_weaves_133 : decode cX9_weaves 133 = .ok (.iload 9, 2) := by decide +kernel
theorem dX9_weaves_135 : decode cX9_weaves 135 = .ok (.iconst 2, 1) := by decide +kernel
theorem dX9_weaves_136 : decode cX9_weaves 136 = .ok (.if_icmp .ge 188, 3) := by decide +kernel
theorem dX9_weaves_139 : decode cX9_weaves 139 = .ok (.iload 9, 2) := by decide +kernel
theorem dX9_weaves_141 : decode cX9_weaves 141 = .ok (.ifCond .ne 19, 3) := by decide +kernel
theorem dX9_weaves_144 : decode cX9_weaves 144 = .ok (.iload_n 2, 1) := by decide +kernel
theorem dX9_weaves_145 : decode cX9_weaves 145 = .ok (.bipush 6, 2) := by decide +kernel
theorem dX9_weaves_147 : decode cX9_weaves 147 = .ok (.aload_n 0, 1) := by decide +kernel
theorem dX9_weaves_148 : decode cX9_weaves 148 = .ok (.getfield 168, 3) := by decide +kernel
theorem dX9_weaves_151 : decode cX9_weaves 151 = .ok (.invokestatic 177, 3) := by decide +kernel
theorem dX9_weaves_154 : decode cX9_weaves 154 = .ok (.if_icmp .ne 22, 3) := by decide +kernel
theorem dX9_weaves_157 : decode cX9_weaves 157 = .ok (.goto 161, 3) := by decide +kernel
theorem dX9_weaves_160 : decode cX9_weaves 160 = .ok (.iload_n 3, 1) := by decide +kernel
theorem dX9_weaves_161 : decode cX9_weaves 161 = .ok (.bipush 6, 2) := by decide +kernel
theorem dX9_weaves_163 : decode cX9_weaves 163 = .ok (.aload_n 0, 1) := by decide +kernel
theorem dX9_weaves_164 : decode cX9_weaves 164 = .ok (.getfield 171, 3) := by decide +kernel
theorem dX9_weaves_167 : decode cX9_weaves 167 = .ok (.invokestatic 177, 3) := by decide +kernel
theorem dX9_weaves_170 : decode cX9_weaves 170 = .ok (.if_icmp .ne 6, 3) := by decide +kernel
theorem dX9_weaves_173 : decode cX9_weaves 173 = .ok (.goto 145, 3) := by decide +kernel
theorem dX9_weaves_176 : decode cX9_weaves 176 = .ok (.iload 9, 2) := by decide +kernel
theorem dX9_weaves_178 : decode cX9_weaves 178 = .ok (.ifCond .ne 12, 3) := by decide +kernel
theorem dX9_weaves_181 : decode cX9_weaves 181 = .ok (.aload_n 0, 1) := by decide +kernel
theorem dX9_weaves_182 : decode cX9_weaves 182 = .ok (.getfield 30, 3) := by decide +kernel
theorem dX9_weaves_185 : decode cX9_weaves 185 = .ok (.iload_n 2, 1) := by decide +kernel
theorem dX9_weaves_186 : decode cX9_weaves 186 = .ok (.iaload, 1) := by decide +kernel
theorem dX9_weaves_187 : decode cX9_weaves 187 = .ok (.goto 9, 3) := by decide +kernel
theorem dX9_weaves_190 : decode cX9_weaves 190 = .ok (.aload_n 0, 1) := by decide +kernel
theorem dX9_weaves_191 : decode cX9_weaves 191 = .ok (.getfield 33, 3) := by decide +kernel
theorem dX9_weaves_194 : decode cX9_weaves 194 = .ok (.iload_n 3, 1) := by decide +kernel
theorem dX9_weaves_195 : decode cX9_weaves 195 = .ok (.iaload, 1) := by decide +kernel
theorem dX9_weaves_196 : decode cX9_weaves 196 = .ok (.istore 10, 2) := by decide +kernel
theorem dX9_weaves_198 : decode cX9_weaves 198 = .ok (.aload_n 0, 1) := by decide +kernel
theorem dX9_weaves_199 : decode cX9_weaves 199 = .ok (.iload_n 1, 1) := by decide +kernel
theorem dX9_weaves_200 : decode cX9_weaves 200 = .ok (.iload 9, 2) := by decide +kernel
theorem dX9_weaves_202 : decode cX9_weaves 202 = .ok (.ifCond .ne 7, 3) := by decide +kernel
theorem dX9_weaves_205 : decode cX9_weaves 205 = .ok (.iconst 1, 1) := by decide +kernel
theorem dX9_weaves_206 : decode cX9_weaves 206 = .ok (.goto 4, 3) := by decide +kernel
theorem dX9_weaves_209 : decode cX9_weaves 209 = .ok (.iconst 0, 1) := by decide +kernel
theorem dX9_weaves_210 : decode cX9_weaves 210 = .ok (.aload_n 0, 1) := by decide +kernel
theorem dX9_weaves_211 : decode cX9_weaves 211 = .ok (.getfield 9, 3) := by decide +kernel
theorem dX9_weaves_214 : decode cX9_weaves 214 = .ok (.bipush 66, 2) := by decide +kernel
theorem dX9_weaves_216 : decode cX9_weaves 216 = .ok (.iload 10, 2) := by decide +kernel
theorem dX9_weaves_218 : decode cX9_weaves 218 = .ok (.iadd, 1) := by decide +kernel
theorem dX9_weaves_219 : decode cX9_weaves 219 = .ok (.iaload, 1) := by decide +kernel
theorem dX9_weaves_220 : decode cX9_weaves 220 = .ok (.invokevirtual 140, 3) := by decide +kernel
theorem dX9_weaves_223 : decode cX9_weaves 223 = .ok (.ifCond .eq 49, 3) := by decide +kernel
theorem dX9_weaves_226 : decode cX9_weaves 226 = .ok (.aload_n 0, 1) := by decide +kernel
theorem dX9_weaves_227 : decode cX9_weaves 227 = .ok (.getfield 36, 3) := by decide +kernel
theorem dX9_weaves_230 : decode cX9_weaves 230 = .ok (.iload_n 2, 1) := by decide +kernel
theorem dX9_weaves_231 : decode cX9_weaves 231 = .ok (.iload_n 3, 1) := by decide +kernel
theorem dX9_weaves_232 : decode cX9_weaves 232 = .ok (.iadd, 1) := by decide +kernel
theorem dX9_weaves_233 : decode cX9_weaves 233 = .ok (.iload 10, 2) := by decide +kernel
theorem dX9_weaves_235 : decode cX9_weaves 235 = .ok (.iastore, 1) := by decide +kernel
theorem dX9_weaves_236 : decode cX9_weaves 236 = .ok (.aload_n 0, 1) := by decide +kernel
theorem dX9_weaves_237 : decode cX9_weaves 237 = .ok (.iload_n 1, 1) := by decide +kernel
theorem dX9_weaves_238 : decode cX9_weaves 238 = .ok (.iload 9, 2) := by decide +kernel
theorem dX9_weaves_240 : decode cX9_weaves 240 = .ok (.ifCond .ne 9, 3) := by decide +kernel
theorem dX9_weaves_243 : decode cX9_weaves 243 = .ok (.iload_n 2, 1) := by decide +kernel
theorem dX9_weaves_244 : decode cX9_weaves 244 = .ok (.iconst 1, 1) := by decide +kernel
theorem dX9_weaves_245 : decode cX9_weaves 245 = .ok (.iadd, 1) := by decide +kernel
theorem dX9_weaves_246 : decode cX9_weaves 246 = .ok (.goto 4, 3) := by decide +kernel
theorem dX9_weaves_249 : decode cX9_weaves 249 = .ok (.iload_n 2, 1) := by decide +kernel
theorem dX9_weaves_250 : decode cX9_weaves 250 = .ok (.iload 9, 2) := by decide +kernel
theorem dX9_weaves_252 : decode cX9_weaves 252 = .ok (.ifCond .ne 7, 3) := by decide +kernel
theorem dX9_weaves_255 : decode cX9_weaves 255 = .ok (.iload_n 3, 1) := by decide +kernel
theorem dX9_weaves_256 : decode cX9_weaves 256 = .ok (.goto 6, 3) := by decide +kernel
theorem dX9_weaves_259 : decode cX9_weaves 259 = .ok (.iload_n 3, 1) := by decide +kernel
theorem dX9_weaves_260 : decode cX9_weaves 260 = .ok (.iconst 1, 1) := by decide +kernel
theorem dX9_weaves_261 : decode cX9_weaves 261 = .ok (.iadd, 1) := by decide +kernel
theorem dX9_weaves_262 : decode cX9_weaves 262 = .ok (.iload 4, 2) := by decide +kernel
theorem dX9_weaves_264 : decode cX9_weaves 264 = .ok (.aload_n 0, 1) := by decide +kernel
theorem dX9_weaves_265 : decode cX9_weaves 265 = .ok (.getfield 137, 3) := by decide +kernel
theorem dX9_weaves_268 : decode cX9_weaves 268 = .ok (.iadd, 1) := by decide +kernel
theorem dX9_weaves_269 : decode cX9_weaves 269 = .ok (.invokevirtual 188, 3) := by decide +kernel
theorem dX9_weaves_272 : decode cX9_weaves 272 = .ok (.aload_n 0, 1) := by decide +kernel
theorem dX9_weaves_273 : decode cX9_weaves 273 = .ok (.getfield 9, 3) := by decide +kernel
theorem dX9_weaves_276 : decode cX9_weaves 276 = .ok (.bipush 24, 2) := by decide +kernel
theorem dX9_weaves_278 : decode cX9_weaves 278 = .ok (.iload_n 1, 1) := by decide +kernel
theorem dX9_weaves_279 : decode cX9_weaves 279 = .ok (.iadd, 1) := by decide +kernel
theorem dX9_weaves_280 : decode cX9_weaves 280 = .ok (.iload 5, 2) := by decide +kernel
theorem dX9_weaves_282 : decode cX9_weaves 282 = .ok (.iastore, 1) := by decide +kernel
theorem dX9_weaves_283 : decode cX9_weaves 283 = .ok (.aload_n 0, 1) := by decide +kernel
theorem dX9_weaves_284 : decode cX9_weaves 284 = .ok (.getfield 9, 3) := by decide +kernel
theorem dX9_weaves_287 : decode cX9_weaves 287 = .ok (.bipush 24, 2) := by decide +kernel
theorem dX9_weaves_289 : decode cX9_weaves 289 = .ok (.iload_n 1, 1) := by decide +kernel
theorem dX9_weaves_290 : decode cX9_weaves 290 = .ok (.iadd, 1) := by decide +kernel
theorem dX9_weaves_291 : decode cX9_weaves 291 = .ok (.iconst 1, 1) := by decide +kernel
theorem dX9_weaves_292 : decode cX9_weaves 292 = .ok (.iadd, 1) := by decide +kernel
theorem dX9_weaves_293 : decode cX9_weaves 293 = .ok (.iload 6, 2) := by decide +kernel
theorem dX9_weaves_295 : decode cX9_weaves 295 = .ok (.iastore, 1) := by decide +kernel
theorem dX9_weaves_296 : decode cX9_weaves 296 = .ok (.aload_n 0, 1) := by decide +kernel
theorem dX9_weaves_297 : decode cX9_weaves 297 = .ok (.getfield 9, 3) := by decide +kernel
theorem dX9_weaves_300 : decode cX9_weaves 300 = .ok (.bipush 12, 2) := by decide +kernel
theorem dX9_weaves_302 : decode cX9_weaves 302 = .ok (.iload_n 1, 1) := by decide +kernel
theorem dX9_weaves_303 : decode cX9_weaves 303 = .ok (.iadd, 1) := by decide +kernel
theorem dX9_weaves_304 : decode cX9_weaves 304 = .ok (.iload 7, 2) := by decide +kernel
theorem dX9_weaves_306 : decode cX9_weaves 306 = .ok (.iastore, 1) := by decide +kernel
theorem dX9_weaves_307 : decode cX9_weaves 307 = .ok (.aload_n 0, 1) := by decide +kernel
theorem dX9_weaves_308 : decode cX9_weaves 308 = .ok (.getfield 9, 3) := by decide +kernel
theorem dX9_weaves_311 : decode cX9_weaves 311 = .ok (.bipush 18, 2) := by decide +kernel
theorem dX9_weaves_313 : decode cX9_weaves 313 = .ok (.iload_n 1, 1) := by decide +kernel
theorem dX9_weaves_314 : decode cX9_weaves 314 = .ok (.iadd, 1) := by decide +kernel
theorem dX9_weaves_315 : decode cX9_weaves 315 = .ok (.iload 8, 2) := by decide +kernel
theorem dX9_weaves_317 : decode cX9_weaves 317 = .ok (.iastore, 1) := by decide +kernel
theorem dX9_weaves_318 : decode cX9_weaves 318 = .ok (.iinc 9 1, 3) := by decide +kernel
theorem dX9_weaves_321 : decode cX9_weaves 321 = .ok (.goto (-188), 3) := by decide +kernel
theorem dX9_weaves_324 : decode cX9_weaves 324 = .ok (.return_, 1) := by decide +kernel
theorem dX9_weavesAll_0 : decode cX9_weavesAll 0 = .ok (.aload_n 0, 1) := by decide +kernel
theorem dX9_weavesAll_1 : decode cX9_weavesAll 1 = .ok (.iload_n 1, 1) := by decide +kernel
theorem dX9_weavesAll_2 : decode cX9_weavesAll 2 = .ok (.invokevirtual 174, 3) := by decide +kernel
theorem dX9_weavesAll_5 : decode cX9_weavesAll 5 = .ok (.aload_n 0, 1) := by decide +kernel
theorem dX9_weavesAll_6 : decode cX9_weavesAll 6 = .ok (.iconst 0, 1) := by decide +kernel
theorem dX9_weavesAll_7 : decode cX9_weavesAll 7 = .ok (.putfield 182, 3) := by decide +kernel
theorem dX9_weavesAll_10 : decode cX9_weavesAll 10 = .ok (.aload_n 0, 1) := by decide +kernel
theorem dX9_weavesAll_11 : decode cX9_weavesAll 11 = .ok (.ldc 192, 2) := by decide +kernel
theorem dX9_weavesAll_13 : decode cX9_weavesAll 13 = .ok (.putfield 185, 3) := by decide +kernel
theorem dX9_weavesAll_16 : decode cX9_weavesAll 16 = .ok (.aload_n 0, 1) := by decide +kernel
theorem dX9_weavesAll_17 : decode cX9_weavesAll 17 = .ok (.iload_n 1, 1) := by decide +kernel
theorem dX9_weavesAll_18 : decode cX9_weavesAll 18 = .ok (.iconst 0, 1) := by decide +kernel
theorem dX9_weavesAll_19 : decode cX9_weavesAll 19 = .ok (.iconst 0, 1) := by decide +kernel
theorem dX9_weavesAll_20 : decode cX9_weavesAll 20 = .ok (.iconst 0, 1) := by decide +kernel
theorem dX9_weavesAll_21 : decode cX9_weavesAll 21 = .ok (.invokevirtual 188, 3) := by decide +kernel
theorem dX9_weavesAll_24 : decode cX9_weavesAll 24 = .ok (.return_, 1) := by decide +kernel
theorem dX9_orders_0 : decode cX9_orders 0 = .ok (.aload_n 0, 1) := by decide +kernel
theorem dX9_orders_1 : decode cX9_orders 1 = .ok (.iload_n 1, 1) := by decide +kernel
theorem dX9_orders_2 : decode cX9_orders 2 = .ok (.invokevirtual 50, 3) := by decide +kernel
theorem dX9_orders_5 : decode cX9_orders 5 = .ok (.ifCond .ne 5, 3) := by decide +kernel
theorem dX9_orders_8 : decode cX9_orders 8 = .ok (.iconst (-1), 1) := by decide +kernel
theorem dX9_orders_9 : decode cX9_orders 9 = .ok (.ireturn, 1) := by decide +kernel
theorem dX9_orders_10 : decode cX9_orders 10 = .ok (.aload_n 0, 1) := by decide +kernel
theorem dX9_orders_11 : decode cX9_orders 11 = .ok (.iload_n 1, 1) := by decide +kernel
theorem dX9_orders_12 : decode cX9_orders 12 = .ok (.invokevirtual 193, 3) := by decide +kernel
theorem dX9_orders_15 : decode cX9_orders 15 = .ok (.aload_n 0, 1) := by decide +kernel
theorem dX9_orders_16 : decode cX9_orders 16 = .ok (.getfield 182, 3) := by decide +kernel
theorem dX9_orders_19 : decode cX9_orders 19 = .ok (.ireturn, 1) := by decide +kernel
theorem dX9_best_0 : decode cX9_best 0 = .ok (.aload_n 0, 1) := by decide +kernel
theorem dX9_best_1 : decode cX9_best 1 = .ok (.iload_n 1, 1) := by decide +kernel
theorem dX9_best_2 : decode cX9_best 2 = .ok (.invokevirtual 50, 3) := by decide +kernel
theorem dX9_best_5 : decode cX9_best 5 = .ok (.ifCond .eq 8, 3) := by decide +kernel
theorem dX9_best_8 : decode cX9_best 8 = .ok (.iload_n 2, 1) := by decide +kernel
theorem dX9_best_9 : decode cX9_best 9 = .ok (.iconst (-1), 1) := by decide +kernel
theorem dX9_best_10 : decode cX9_best 10 = .ok (.if_icmp .ge 6, 3) := by decide +kernel
theorem dX9_best_13 : decode cX9_best 13 = .ok (.ldc 157, 2) := by decide +kernel
theorem dX9_best_15 : decode cX9_best 15 = .ok (.ireturn, 1) := by decide +kernel
theorem dX9_best_16 : decode cX9_best 16 = .ok (.aload_n 0, 1) := by decide +kernel
theorem dX9_best_17 : decode cX9_best 17 = .ok (.iload_n 1, 1) := by decide +kernel
theorem dX9_best_18 : decode cX9_best 18 = .ok (.invokevirtual 193, 3) := by decide +kernel
theorem dX9_best_21 : decode cX9_best 21 = .ok (.bipush 6, 2) := by decide +kernel
theorem dX9_best_23 : decode cX9_best 23 = .ok (.aload_n 0, 1) := by decide +kernel
theorem dX9_best_24 : decode cX9_best 24 = .ok (.getfield 168, 3) := by decide +kernel
theorem dX9_best_27 : decode cX9_best 27 = .ok (.invokestatic 177, 3) := by decide +kernel
theorem dX9_best_30 : decode cX9_best 30 = .ok (.bipush 6, 2) := by decide +kernel
theorem dX9_best_32 : decode cX9_best 32 = .ok (.aload_n 0, 1) := by decide +kernel
theorem dX9_best_33 : decode cX9_best 33 = .ok (.getfield 171, 3) := by decide +kernel
theorem dX9_best_36 : decode cX9_best 36 = .ok (.invokestatic 177, 3) := by decide +kernel
theorem dX9_best_39 : decode cX9_best 39 = .ok (.iadd, 1) := by decide +kernel
theorem dX9_best_40 : decode cX9_best 40 = .ok (.istore_n 3, 1) := by decide +kernel
theorem dX9_best_41 : decode cX9_best 41 = .ok (.aload_n 0, 1) := by decide +kernel
theorem dX9_best_42 : decode cX9_best 42 = .ok (.getfield 182, 3) := by decide +kernel
theorem dX9_best_45 : decode cX9_best 45 = .ok (.ifCond .eq 14, 3) := by decide +kernel
theorem dX9_best_48 : decode cX9_best 48 = .ok (.iload_n 2, 1) := by decide +kernel
theorem dX9_best_49 : decode cX9_best 49 = .ok (.iconst (-1), 1) := by decide +kernel
theorem dX9_best_50 : decode cX9_best 50 = .ok (.iload_n 3, 1) := by decide +kernel
theorem dX9_best_51 : decode cX9_best 51 = .ok (.iconst 1, 1) := by decide +kernel
theorem dX9_best_52 : decode cX9_best 52 = .ok (.isub, 1) := by decide +kernel
theorem dX9_best_53 : decode cX9_best 53 = .ok (.invokestatic 46, 3) := by decide +kernel
theorem dX9_best_56 : decode cX9_best 56 = .ok (.ifCond .ne 6, 3) := by decide +kernel
theorem dX9_best_59 : decode cX9_best 59 = .ok (.ldc 158, 2) := by decide +kernel
theorem dX9_best_61 : decode cX9_best 61 = .ok (.ireturn, 1) := by decide +kernel
theorem dX9_best_62 : decode cX9_best 62 = .ok (.iload_n 2, 1) := by decide +kernel
theorem dX9_best_63 : decode cX9_best 63 = .ok (.iconst (-1), 1) := by decide +kernel
theorem dX9_best_64 : decode cX9_best 64 = .ok (.if_icmp .ne 10, 3) := by decide +kernel
theorem dX9_best_67 : decode cX9_best 67 = .ok (.aload_n 0, 1) := by decide +kernel
theorem dX9_best_68 : decode cX9_best 68 = .ok (.getfield 185, 3) := by decide +kernel
theorem dX9_best_71 : decode cX9_best 71 = .ok (.goto 9, 3) := by decide +kernel
theorem dX9_best_74 : decode cX9_best 74 = .ok (.aload_n 0, 1) := by decide +kernel
theorem dX9_best_75 : decode cX9_best 75 = .ok (.getfield 39, 3) := by decide +kernel
theorem dX9_best_78 : decode cX9_best 78 = .ok (.iload_n 2, 1) := by decide +kernel
theorem dX9_best_79 : decode cX9_best 79 = .ok (.iaload, 1) := by decide +kernel
theorem dX9_best_80 : decode cX9_best 80 = .ok (.ireturn, 1) := by decide +kernel
theorem dX9_isFromBelow_0 : decode cX9_isFromBelow 0 = .ok (.iload_n 3, 1) := by decide +kernel
theorem dX9_isFromBelow_1 : decode cX9_isFromBelow 1 = .ok (.aload_n 0, 1) := by decide +kernel
theorem dX9_isFromBelow_2 : decode cX9_isFromBelow 2 = .ok (.getfield 168, 3) := by decide +kernel
theorem dX9_isFromBelow_5 : decode cX9_isFromBelow 5 = .ok (.if_icmp .eq 12, 3) := by decide +kernel
theorem dX9_isFromBelow_8 : decode cX9_isFromBelow 8 = .ok (.iload 4, 2) := by decide +kernel
theorem dX9_isFromBelow_10 : decode cX9_isFromBelow 10 = .ok (.aload_n 0, 1) := by decide +kernel
theorem dX9_isFromBelow_11 : decode cX9_isFromBelow 11 = .ok (.getfield 171, 3) := by decide +kernel
theorem dX9_isFromBelow_14 : decode cX9_isFromBelow 14 = .ok (.if_icmp .ne 17, 3) := by decide +kernel
theorem dX9_isFromBelow_17 : decode cX9_isFromBelow 17 = .ok (.iload_n 3, 1) := by decide +kernel
theorem dX9_isFromBelow_18 : decode cX9_isFromBelow 18 = .ok (.aload_n 0, 1) := by decide +kernel
theorem dX9_isFromBelow_19 : decode cX9_isFromBelow 19 = .ok (.getfield 168, 3) := by decide +kernel
theorem dX9_isFromBelow_22 : decode cX9_isFromBelow 22 = .ok (.if_icmp .ge 7, 3) := by decide +kernel
theorem dX9_isFromBelow_25 : decode cX9_isFromBelow 25 = .ok (.iconst 1, 1) := by decide +kernel
theorem dX9_isFromBelow_26 : decode cX9_isFromBelow 26 = .ok (.goto 4, 3) := by decide +kernel
theorem dX9_isFromBelow_29 : decode cX9_isFromBelow 29 = .ok (.iconst 0, 1) := by decide +kernel
theorem dX9_isFromBelow_30 : decode cX9_isFromBelow 30 = .ok (.ireturn, 1) := by decide +kernel
theorem dX9_isFromBelow_31 : decode cX9_isFromBelow 31 = .ok (.iload_n 2, 1) := by decide +kernel
theorem dX9_isFromBelow_32 : decode cX9_isFromBelow 32 = .ok (.tableswitch 129 0 2 #[28, 43, 127], 28) := by decide +kernel
theorem dX9_isFromBelow_60 : decode cX9_isFromBelow 60 = .ok (.iload_n 3, 1) := by decide +kernel
theorem dX9_isFromBelow_61 : decode cX9_isFromBelow 61 = .ok (.iload 4, 2) := by decide +kernel
theorem dX9_isFromBelow_63 : decode cX9_isFromBelow 63 = .ok (.iadd, 1) := by decide +kernel
theorem dX9_isFromBelow_64 : decode cX9_isFromBelow 64 = .ok (.iconst 2, 1) := by decide +kernel
theorem dX9_isFromBelow_65 : decode cX9_isFromBelow 65 = .ok (.irem, 1) := by decide +kernel
theorem dX9_isFromBelow_66 : decode cX9_isFromBelow 66 = .ok (.ifCond .ne 7, 3) := by decide +kernel
theorem dX9_isFromBelow_69 : decode cX9_isFromBelow 69 = .ok (.iconst 1, 1) := by decide +kernel
theorem dX9_isFromBelow_70 : decode cX9_isFromBelow 70 = .ok (.goto 4, 3) := by decide +kernel
theorem dX9_isFromBelow_73 : decode cX9_isFromBelow 73 = .ok (.iconst 0, 1) := by decide +kernel
theorem dX9_isFromBelow_74 : decode cX9_isFromBelow 74 = .ok (.ireturn, 1) := by decide +kernel
theorem dX9_isFromBelow_75 : decode cX9_isFromBelow 75 = .ok (.aload_n 0, 1) := by decide +kernel
theorem dX9_isFromBelow_76 : decode cX9_isFromBelow 76 = .ok (.getfield 30, 3) := by decide +kernel
theorem dX9_isFromBelow_79 : decode cX9_isFromBelow 79 = .ok (.iload_n 3, 1) := by decide +kernel
theorem dX9_isFromBelow_80 : decode cX9_isFromBelow 80 = .ok (.iaload, 1) := by decide +kernel
theorem dX9_isFromBelow_81 : decode cX9_isFromBelow 81 = .ok (.istore 5, 2) := by decide +kernel
theorem dX9_isFromBelow_83 : decode cX9_isFromBelow 83 = .ok (.aload_n 0, 1) := by decide +kernel
theorem dX9_isFromBelow_84 : decode cX9_isFromBelow 84 = .ok (.getfield 33, 3) := by decide +kernel
theorem dX9_isFromBelow_87 : decode cX9_isFromBelow 87 = .ok (.iload 4, 2) := by decide +kernel
theorem dX9_isFromBelow_89 : decode cX9_isFromBelow 89 = .ok (.iaload, 1) := by decide +kernel
theorem dX9_isFromBelow_90 : decode cX9_isFromBelow 90 = .ok (.istore 6, 2) := by decide +kernel
theorem dX9_isFromBelow_92 : decode cX9_isFromBelow 92 = .ok (.aload_n 0, 1) := by decide +kernel
theorem dX9_isFromBelow_93 : decode cX9_isFromBelow 93 = .ok (.getfield 9, 3) := by decide +kernel
theorem dX9_isFromBelow_96 : decode cX9_isFromBelow 96 = .ok (.bipush 78, 2) := by decide +kernel
theorem dX9_isFromBelow_98 : decode cX9_isFromBelow 98 = .ok (.iload 5, 2) := by decide +kernel
theorem dX9_isFromBelow_100 : decode cX9_isFromBelow 100 = .ok (.iadd, 1) := by decide +kernel
theorem dX9_isFromBelow_101 : decode cX9_isFromBelow 101 = .ok (.iaload, 1) := by decide +kernel
theorem dX9_isFromBelow_102 : decode cX9_isFromBelow 102 = .ok (.aload_n 0, 1) := by decide +kernel
theorem dX9_isFromBelow_103 : decode cX9_isFromBelow 103 = .ok (.getfield 9, 3) := by decide +kernel
theorem dX9_isFromBelow_106 : decode cX9_isFromBelow 106 = .ok (.bipush 78, 2) := by decide +kernel
theorem dX9_isFromBelow_108 : decode cX9_isFromBelow 108 = .ok (.iload 6, 2) := by decide +kernel
theorem dX9_isFromBelow_110 : decode cX9_isFromBelow 110 = .ok (.iadd, 1) := by decide +kernel
theorem dX9_isFromBelow_111 : decode cX9_isFromBelow 111 = .ok (.iaload, 1) := by decide +kernel
theorem dX9_isFromBelow_112 : decode cX9_isFromBelow 112 = .ok (.if_icmp .eq 34, 3) := by decide +kernel
theorem dX9_isFromBelow_115 : decode cX9_isFromBelow 115 = .ok (.aload_n 0, 1) := by decide +kernel
theorem dX9_isFromBelow_116 : decode cX9_isFromBelow 116 = .ok (.getfield 9, 3) := by decide +kernel
theorem dX9_isFromBelow_119 : decode cX9_isFromBelow 119 = .ok (.bipush 78, 2) := by decide +kernel
theorem dX9_isFromBelow_121 : decode cX9_isFromBelow 121 = .ok (.iload 5, 2) := by decide +kernel
theorem dX9_isFromBelow_123 : decode cX9_isFromBelow 123 = .ok (.iadd, 1) := by decide +kernel
theorem dX9_isFromBelow_124 : decode cX9_isFromBelow 124 = .ok (.iaload, 1) := by decide +kernel
theorem dX9_isFromBelow_125 : decode cX9_isFromBelow 125 = .ok (.aload_n 0, 1) := by decide +kernel
theorem dX9_isFromBelow_126 : decode cX9_isFromBelow 126 = .ok (.getfield 9, 3) := by decide +kernel
theorem dX9_isFromBelow_129 : decode cX9_isFromBelow 129 = .ok (.bipush 78, 2) := by decide +kernel
theorem dX9_isFromBelow_131 : decode cX9_isFromBelow 131 = .ok (.iload 6, 2) := by decide +kernel
theorem dX9_isFromBelow_133 : decode cX9_isFromBelow 133 = .ok (.iadd, 1) := by decide +kernel
theorem dX9_isFromBelow_134 : decode cX9_isFromBelow 134 = .ok (.iaload, 1) := by decide +kernel
theorem dX9_isFromBelow_135 : decode cX9_isFromBelow 135 = .ok (.if_icmp .le 7, 3) := by decide +kernel
theorem dX9_isFromBelow_138 : decode cX9_isFromBelow 138 = .ok (.iconst 1, 1) := by decide +kernel
theorem dX9_isFromBelow_139 : decode cX9_isFromBelow 139 = .ok (.goto 19, 3) := by decide +kernel
theorem dX9_isFromBelow_142 : decode cX9_isFromBelow 142 = .ok (.iconst 0, 1) := by decide +kernel
theorem dX9_isFromBelow_143 : decode cX9_isFromBelow 143 = .ok (.goto 15, 3) := by decide +kernel
theorem dX9_isFromBelow_146 : decode cX9_isFromBelow 146 = .ok (.iload 5, 2) := by decide +kernel
theorem dX9_isFromBelow_148 : decode cX9_isFromBelow 148 = .ok (.iload 6, 2) := by decide +kernel
theorem dX9_isFromBelow_150 : decode cX9_isFromBelow 150 = .ok (.if_icmp .ge 7, 3) := by decide +kernel
theorem dX9_isFromBelow_153 : decode cX9_isFromBelow 153 = .ok (.iconst 1, 1) := by decide +kernel
theorem dX9_isFromBelow_154 : decode cX9_isFromBelow 154 = .ok (.goto 4, 3) := by decide +kernel
theorem dX9_isFromBelow_157 : decode cX9_isFromBelow 157 = .ok (.iconst 0, 1) := by decide +kernel
theorem dX9_isFromBelow_158 : decode cX9_isFromBelow 158 = .ok (.ireturn, 1) := by decide +kernel
theorem dX9_isFromBelow_159 : decode cX9_isFromBelow 159 = .ok (.iconst 1, 1) := by decide +kernel
theorem dX9_isFromBelow_160 : decode cX9_isFromBelow 160 = .ok (.ireturn, 1) := by decide +kernel
theorem dX9_isFromBelow_161 : decode cX9_isFromBelow 161 = .ok (.aload_n 0, 1) := by decide +kernel
theorem dX9_isFromBelow_162 : decode cX9_isFromBelow 162 = .ok (.getfield 9, 3) := by decide +kernel
theorem dX9_isFromBelow_165 : decode cX9_isFromBelow 165 = .ok (.bipush 18, 2) := by decide +kernel
theorem dX9_isFromBelow_167 : decode cX9_isFromBelow 167 = .ok (.iload_n 1, 1) := by decide +kernel
theorem dX9_isFromBelow_168 : decode cX9_isFromBelow 168 = .ok (.iadd, 1) := by decide +kernel
theorem dX9_isFromBelow_169 : decode cX9_isFromBelow 169 = .ok (.iaload, 1) := by decide +kernel
theorem dX9_isFromBelow_170 : decode cX9_isFromBelow 170 = .ok (.ifCond .ne 7, 3) := by decide +kernel
theorem dX9_isFromBelow_173 : decode cX9_isFromBelow 173 = .ok (.iconst 1, 1) := by decide +kernel
theorem dX9_isFromBelow_174 : decode cX9_isFromBelow 174 = .ok (.goto 4, 3) := by decide +kernel
theorem dX9_isFromBelow_177 : decode cX9_isFromBelow 177 = .ok (.iconst 0, 1) := by decide +kernel
theorem dX9_isFromBelow_178 : decode cX9_isFromBelow 178 = .ok (.ireturn, 1) := by decide +kernel
theorem dX9_runs_0 : decode cX9_runs 0 = .ok (.aload_n 0, 1) := by decide +kernel
theorem dX9_runs_1 : decode cX9_runs 1 = .ok (.iload_n 1, 1) := by decide +kernel
theorem dX9_runs_2 : decode cX9_runs 2 = .ok (.invokevirtual 174, 3) := by decide +kernel
theorem dX9_runs_5 : decode cX9_runs 5 = .ok (.aload_n 0, 1) := by decide +kernel
theorem dX9_runs_6 : decode cX9_runs 6 = .ok (.iconst 0, 1) := by decide +kernel
theorem dX9_runs_7 : decode cX9_runs 7 = .ok (.putfield 196, 3) := by decide +kernel
theorem dX9_runs_10 : decode cX9_runs 10 = .ok (.aload_n 0, 1) := by decide +kernel
theorem dX9_runs_11 : decode cX9_runs 11 = .ok (.iconst 0, 1) := by decide +kernel
theorem dX9_runs_12 : decode cX9_runs 12 = .ok (.putfield 199, 3) := by decide +kernel
theorem dX9_runs_15 : decode cX9_runs 15 = .ok (.iconst 0, 1) := by decide +kernel
theorem dX9_runs_16 : decode cX9_runs 16 = .ok (.istore 4, 2) := by decide +kernel
theorem dX9_runs_18 : decode cX9_runs 18 = .ok (.iconst 0, 1) := by decide +kernel
theorem dX9_runs_19 : decode cX9_runs 19 = .ok (.istore 5, 2) := by decide +kernel
theorem dX9_runs_21 : decode cX9_runs 21 = .ok (.iload 4, 2) := by decide +kernel
theorem dX9_runs_23 : decode cX9_runs 23 = .ok (.aload_n 0, 1) := by decide +kernel
theorem dX9_runs_24 : decode cX9_runs 24 = .ok (.getfield 168, 3) := by decide +kernel
theorem dX9_runs_27 : decode cX9_runs 27 = .ok (.if_icmp .lt 12, 3) := by decide +kernel
theorem dX9_runs_30 : decode cX9_runs 30 = .ok (.iload 5, 2) := by decide +kernel
theorem dX9_runs_32 : decode cX9_runs 32 = .ok (.aload_n 0, 1) := by decide +kernel
theorem dX9_runs_33 : decode cX9_runs 33 = .ok (.getfield 171, 3) := by decide +kernel
theorem dX9_runs_36 : decode cX9_runs 36 = .ok (.if_icmp .ge 86, 3) := by decide +kernel
theorem dX9_runs_39 : decode cX9_runs 39 = .ok (.aload_n 0, 1) := by decide +kernel
theorem dX9_runs_40 : decode cX9_runs 40 = .ok (.iload_n 1, 1) := by decide +kernel
theorem dX9_runs_41 : decode cX9_runs 41 = .ok (.iload_n 2, 1) := by decide +kernel
theorem dX9_runs_42 : decode cX9_runs 42 = .ok (.iload 4, 2) := by decide +kernel
theorem dX9_runs_44 : decode cX9_runs 44 = .ok (.iload 5, 2) := by decide +kernel
theorem dX9_runs_46 : decode cX9_runs 46 = .ok (.invokevirtual 202, 3) := by decide +kernel
theorem dX9_runs_49 : decode cX9_runs 49 = .ok (.istore 6, 2) := by decide +kernel
theorem dX9_runs_51 : decode cX9_runs 51 = .ok (.aload_n 0, 1) := by decide +kernel
theorem dX9_runs_52 : decode cX9_runs 52 = .ok (.iload 6, 2) := by decide +kernel
theorem dX9_runs_54 : decode cX9_runs 54 = .ok (.ifCond .eq 13, 3) := by decide +kernel
theorem dX9_runs_57 : decode cX9_runs 57 = .ok (.aload_n 0, 1) := by decide +kernel
theorem dX9_runs_58 : decode cX9_runs 58 = .ok (.getfield 30, 3) := by decide +kernel
theorem dX9_runs_61 : decode cX9_runs 61 = .ok (.iload 4, 2) := by decide +kernel
theorem dX9_runs_63 : decode cX9_runs 63 = .ok (.iaload, 1) := by decide +kernel
theorem dX9_runs_64 : decode cX9_runs 64 = .ok (.goto 10, 3) := by decide +kernel
theorem dX9_runs_67 : decode cX9_runs 67 = .ok (.aload_n 0, 1) := by decide +kernel
theorem dX9_runs_68 : decode cX9_runs 68 = .ok (.getfield 33, 3) := by decide +kernel
theorem dX9_runs_71 : decode cX9_runs 71 = .ok (.iload 5, 2) := by decide +kernel
theorem dX9_runs_73 : decode cX9_runs 73 = .ok (.iaload, 1) := by decide +kernel
theorem dX9_runs_74 : decode cX9_runs 74 = .ok (.iload_n 3, 1) := by decide +kernel
theorem dX9_runs_75 : decode cX9_runs 75 = .ok (.invokevirtual 159, 3) := by decide +kernel
theorem dX9_runs_78 : decode cX9_runs 78 = .ok (.ifCond .ne 4, 3) := by decide +kernel
theorem dX9_runs_81 : decode cX9_runs 81 = .ok (.return_, 1) := by decide +kernel
theorem dX9_runs_82 : decode cX9_runs 82 = .ok (.iload 6, 2) := by decide +kernel
theorem dX9_runs_84 : decode cX9_runs 84 = .ok (.ifCond .eq 9, 3) := by decide +kernel
theorem dX9_runs_87 : decode cX9_runs 87 = .ok (.iinc 4 1, 3) := by decide +kernel
theorem dX9_runs_90 : decode cX9_runs 90 = .ok (.goto 6, 3) := by decide +kernel
theorem dX9_runs_93 : decode cX9_runs 93 = .ok (.iinc 5 1, 3) := by decide +kernel
theorem dX9_runs_96 : decode cX9_runs 96 = .ok (.aload_n 0, 1) := by decide +kernel
theorem dX9_runs_97 : decode cX9_runs 97 = .ok (.dup, 1) := by decide +kernel
theorem dX9_runs_98 : decode cX9_runs 98 = .ok (.getfield 196, 3) := by decide +kernel
theorem dX9_runs_101 : decode cX9_runs 101 = .ok (.iconst 1, 1) := by decide +kernel
theorem dX9_runs_102 : decode cX9_runs 102 = .ok (.iadd, 1) := by decide +kernel
theorem dX9_runs_103 : decode cX9_runs 103 = .ok (.putfield 196, 3) := by decide +kernel
theorem dX9_runs_106 : decode cX9_runs 106 = .ok (.aload_n 0, 1) := by decide +kernel
theorem dX9_runs_107 : decode cX9_runs 107 = .ok (.dup, 1) := by decide +kernel
theorem dX9_runs_108 : decode cX9_runs 108 = .ok (.getfield 199, 3) := by decide +kernel
theorem dX9_runs_111 : decode cX9_runs 111 = .ok (.aload_n 0, 1) := by decide +kernel
theorem dX9_runs_112 : decode cX9_runs 112 = .ok (.getfield 137, 3) := by decide +kernel
theorem dX9_runs_115 : decode cX9_runs 115 = .ok (.iadd, 1) := by decide +kernel
theorem dX9_runs_116 : decode cX9_runs 116 = .ok (.putfield 199, 3) := by decide +kernel
theorem dX9_runs_119 : decode cX9_runs 119 = .ok (.goto (-98), 3) := by decide +kernel
theorem dX9_runs_122 : decode cX9_runs 122 = .ok (.return_, 1) := by decide +kernel
theorem dX9_ruled_0 : decode cX9_ruled 0 = .ok (.aload_n 0, 1) := by decide +kernel
theorem dX9_ruled_1 : decode cX9_ruled 1 = .ok (.iload_n 1, 1) := by decide +kernel
theorem dX9_ruled_2 : decode cX9_ruled 2 = .ok (.invokevirtual 50, 3) := by decide +kernel
theorem dX9_ruled_5 : decode cX9_ruled 5 = .ok (.ifCond .eq 21, 3) := by decide +kernel
theorem dX9_ruled_8 : decode cX9_ruled 8 = .ok (.iload_n 2, 1) := by decide +kernel
theorem dX9_ruled_9 : decode cX9_ruled 9 = .ok (.iconst 0, 1) := by decide +kernel
theorem dX9_ruled_10 : decode cX9_ruled 10 = .ok (.iconst 3, 1) := by decide +kernel
theorem dX9_ruled_11 : decode cX9_ruled 11 = .ok (.invokestatic 46, 3) := by decide +kernel
theorem dX9_ruled_14 : decode cX9_ruled 14 = .ok (.ifCond .eq 12, 3) := by decide +kernel
theorem dX9_ruled_17 : decode cX9_ruled 17 = .ok (.iload_n 3, 1) := by decide +kernel
theorem dX9_ruled_18 : decode cX9_ruled 18 = .ok (.iconst 0, 1) := by decide +kernel
theorem dX9_ruled_19 : decode cX9_ruled 19 = .ok (.iconst 2, 1) := by decide +kernel
theorem dX9_ruled_20 : decode cX9_ruled 20 = .ok (.invokestatic 46, 3) := by decide +kernel
theorem dX9_ruled_23 : decode cX9_ruled 23 = .ok (.ifCond .ne 6, 3) := by decide +kernel
theorem dX9_ruled_26 : decode cX9_ruled 26 = .ok (.ldc 157, 2) := by decide +kernel
theorem dX9_ruled_28 : decode cX9_ruled 28 = .ok (.ireturn, 1) := by decide +kernel
theorem dX9_ruled_29 : decode cX9_ruled 29 = .ok (.aload_n 0, 1) := by decide +kernel
theorem dX9_ruled_30 : decode cX9_ruled 30 = .ok (.getfield 9, 3) := by decide +kernel
theorem dX9_ruled_33 : decode cX9_ruled 33 = .ok (.aload_n 0, 1) := by decide +kernel
theorem dX9_ruled_34 : decode cX9_ruled 34 = .ok (.getfield 18, 3) := by decide +kernel
theorem dX9_ruled_37 : decode cX9_ruled 37 = .ok (.invokestatic 105, 3) := by decide +kernel
theorem dX9_ruled_40 : decode cX9_ruled 40 = .ok (.aload_n 0, 1) := by decide +kernel
theorem dX9_ruled_41 : decode cX9_ruled 41 = .ok (.iload_n 1, 1) := by decide +kernel
theorem dX9_ruled_42 : decode cX9_ruled 42 = .ok (.iload_n 2, 1) := by decide +kernel
theorem dX9_ruled_43 : decode cX9_ruled 43 = .ok (.iconst 0, 1) := by decide +kernel
theorem dX9_ruled_44 : decode cX9_ruled 44 = .ok (.invokevirtual 205, 3) := by decide +kernel
theorem dX9_ruled_47 : decode cX9_ruled 47 = .ok (.aload_n 0, 1) := by decide +kernel
theorem dX9_ruled_48 : decode cX9_ruled 48 = .ok (.getfield 9, 3) := by decide +kernel
theorem dX9_ruled_51 : decode cX9_ruled 51 = .ok (.bipush 18, 2) := by decide +kernel
theorem dX9_ruled_53 : decode cX9_ruled 53 = .ok (.iload_n 1, 1) := by decide +kernel
theorem dX9_ruled_54 : decode cX9_ruled 54 = .ok (.iadd, 1) := by decide +kernel
theorem dX9_ruled_55 : decode cX9_ruled 55 = .ok (.iaload, 1) := by decide +kernel
theorem dX9_ruled_56 : decode cX9_ruled 56 = .ok (.istore 4, 2) := by decide +kernel
theorem dX9_ruled_58 : decode cX9_ruled 58 = .ok (.aload_n 0, 1) := by decide +kernel
theorem dX9_ruled_59 : decode cX9_ruled 59 = .ok (.getfield 18, 3) := by decide +kernel
theorem dX9_ruled_62 : decode cX9_ruled 62 = .ok (.aload_n 0, 1) := by decide +kernel
theorem dX9_ruled_63 : decode cX9_ruled 63 = .ok (.getfield 9, 3) := by decide +kernel
theorem dX9_ruled_66 : decode cX9_ruled 66 = .ok (.invokestatic 105, 3) := by decide +kernel
theorem dX9_ruled_69 : decode cX9_ruled 69 = .ok (.iload_n 3, 1) := by decide +kernel
theorem dX9_ruled_70 : decode cX9_ruled 70 = .ok (.ifCond .ne 10, 3) := by decide +kernel
theorem dX9_ruled_73 : decode cX9_ruled 73 = .ok (.aload_n 0, 1) := by decide +kernel
theorem dX9_ruled_74 : decode cX9_ruled 74 = .ok (.getfield 199, 3) := by decide +kernel
theorem dX9_ruled_77 : decode cX9_ruled 77 = .ok (.goto 17, 3) := by decide +kernel
theorem dX9_ruled_80 : decode cX9_ruled 80 = .ok (.iload_n 3, 1) := by decide +kernel
theorem dX9_ruled_81 : decode cX9_ruled 81 = .ok (.iconst 1, 1) := by decide +kernel
theorem dX9_ruled_82 : decode cX9_ruled 82 = .ok (.if_icmp .ne 10, 3) := by decide +kernel
theorem dX9_ruled_85 : decode cX9_ruled 85 = .ok (.aload_n 0, 1) := by decide +kernel
theorem dX9_ruled_86 : decode cX9_ruled 86 = .ok (.getfield 196, 3) := by decide +kernel
theorem dX9_ruled_89 : decode cX9_ruled 89 = .ok (.goto 5, 3) := by decide +kernel
theorem dX9_ruled_92 : decode cX9_ruled 92 = .ok (.iload 4, 2) := by decide +kernel
theorem dX9_ruled_94 : decode cX9_ruled 94 = .ok (.ireturn, 1) := by decide +kernel
theorem dX9_run_0 : decode cX9_run 0 = .ok (.aload_n 0, 1) := by decide +kernel
theorem dX9_run_1 : decode cX9_run 1 = .ok (.iload_n 1, 1) := by decide +kernel
theorem dX9_run_2 : decode cX9_run 2 = .ok (.invokevirtual 50, 3) := by decide +kernel
theorem dX9_run_5 : decode cX9_run 5 = .ok (.ifCond .eq 12, 3) := by decide +kernel
theorem dX9_run_8 : decode cX9_run 8 = .ok (.iload_n 2, 1) := by decide +kernel
theorem dX9_run_9 : decode cX9_run 9 = .ok (.iconst 0, 1) := by decide +kernel
theorem dX9_run_10 : decode cX9_run 10 = .ok (.iconst 3, 1) := by decide +kernel
theorem dX9_run_11 : decode cX9_run 11 = .ok (.invokestatic 46, 3) := by decide +kernel
theorem dX9_run_14 : decode cX9_run 14 = .ok (.ifCond .ne 5, 3) := by decide +kernel
theorem dX9_run_17 : decode cX9_run 17 = .ok (.iconst (-1), 1) := by decide +kernel
theorem dX9_run_18 : decode cX9_run 18 = .ok (.ireturn, 1) := by decide +kernel
theorem dX9_run_19 : decode cX9_run 19 = .ok (.aload_n 0, 1) := by decide +kernel
theorem dX9_run_20 : decode cX9_run 20 = .ok (.iload_n 1, 1) := by decide +kernel
theorem dX9_run_21 : decode cX9_run 21 = .ok (.iload_n 2, 1) := by decide +kernel
theorem dX9_run_22 : decode cX9_run 22 = .ok (.iconst 1, 1) := by decide +kernel
theorem dX9_run_23 : decode cX9_run 23 = .ok (.invokevirtual 205, 3) := by decide +kernel
theorem dX9_run_26 : decode cX9_run 26 = .ok (.aload_n 0, 1) := by decide +kernel
theorem dX9_run_27 : decode cX9_run 27 = .ok (.getfield 196, 3) := by decide +kernel
theorem dX9_run_30 : decode cX9_run 30 = .ok (.ireturn, 1) := by decide +kernel
theorem dX9_keeper_0 : decode cX9_keeper 0 = .ok (.aload_n 0, 1) := by decide +kernel
theorem dX9_keeper_1 : decode cX9_keeper 1 = .ok (.iload_n 1, 1) := by decide +kernel
theorem dX9_keeper_2 : decode cX9_keeper 2 = .ok (.invokevirtual 50, 3) := by decide +kernel
theorem dX9_keeper_5 : decode cX9_keeper 5 = .ok (.ifCond .ne 5, 3) := by decide +kernel
theorem dX9_keeper_8 : decode cX9_keeper 8 = .ok (.iconst (-1), 1) := by decide +kernel
theorem dX9_keeper_9 : decode cX9_keeper 9 = .ok (.ireturn, 1) := by decide +kernel
theorem dX9_keeper_10 : decode cX9_keeper 10 = .ok (.iconst 0, 1) := by decide +kernel
theorem dX9_keeper_11 : decode cX9_keeper 11 = .ok (.istore_n 2, 1) := by decide +kernel
theorem dX9_keeper_12 : decode cX9_keeper 12 = .ok (.iconst (-1), 1) := by decide +kernel
theorem dX9_keeper_13 : decode cX9_keeper 13 = .ok (.istore_n 3, 1) := by decide +kernel
theorem dX9_keeper_14 : decode cX9_keeper 14 = .ok (.iconst 0, 1) := by decide +kernel
theorem dX9_keeper_15 : decode cX9_keeper 15 = .ok (.istore 4, 2) := by decide +kernel
theorem dX9_keeper_17 : decode cX9_keeper 17 = .ok (.iconst 0, 1) := by decide +kernel
theorem dX9_keeper_18 : decode cX9_keeper 18 = .ok (.istore 5, 2) := by decide +kernel
theorem dX9_keeper_20 : decode cX9_keeper 20 = .ok (.iload 5, 2) := by decide +kernel
theorem dX9_keeper_22 : decode cX9_keeper 22 = .ok (.iconst 4, 1) := by decide +kernel
theorem dX9_keeper_23 : decode cX9_keeper 23 = .ok (.if_icmp .ge 81, 3) := by decide +kernel
theorem dX9_keeper_26 : decode cX9_keeper 26 = .ok (.aload_n 0, 1) := by decide +kernel
theorem dX9_keeper_27 : decode cX9_keeper 27 = .ok (.getfield 9, 3) := by decide +kernel
theorem dX9_keeper_30 : decode cX9_keeper 30 = .ok (.aload_n 0, 1) := by decide +kernel
theorem dX9_keeper_31 : decode cX9_keeper 31 = .ok (.getfield 18, 3) := by decide +kernel
theorem dX9_keeper_34 : decode cX9_keeper 34 = .ok (.invokestatic 105, 3) := by decide +kernel
theorem dX9_keeper_37 : decode cX9_keeper 37 = .ok (.aload_n 0, 1) := by decide +kernel
theorem dX9_keeper_38 : decode cX9_keeper 38 = .ok (.iload_n 1, 1) := by decide +kernel
theorem dX9_keeper_39 : decode cX9_keeper 39 = .ok (.iload 5, 2) := by decide +kernel
theorem dX9_keeper_41 : decode cX9_keeper 41 = .ok (.iconst 0, 1) := by decide +kernel
theorem dX9_keeper_42 : decode cX9_keeper 42 = .ok (.invokevirtual 205, 3) := by decide +kernel
theorem dX9_keeper_45 : decode cX9_keeper 45 = .ok (.aload_n 0, 1) := by decide +kernel
theorem dX9_keeper_46 : decode cX9_keeper 46 = .ok (.getfield 18, 3) := by decide +kernel
theorem dX9_keeper_49 : decode cX9_keeper 49 = .ok (.aload_n 0, 1) := by decide +kernel
theorem dX9_keeper_50 : decode cX9_keeper 50 = .ok (.getfield 9, 3) := by decide +kernel
theorem dX9_keeper_53 : decode cX9_keeper 53 = .ok (.invokestatic 105, 3) := by decide +kernel
theorem dX9_keeper_56 : decode cX9_keeper 56 = .ok (.aload_n 0, 1) := by decide +kernel
theorem dX9_keeper_57 : decode cX9_keeper 57 = .ok (.getfield 196, 3) := by decide +kernel
theorem dX9_keeper_60 : decode cX9_keeper 60 = .ok (.iload_n 3, 1) := by decide +kernel
theorem dX9_keeper_61 : decode cX9_keeper 61 = .ok (.if_icmp .lt 37, 3) := by decide +kernel
theorem dX9_keeper_64 : decode cX9_keeper 64 = .ok (.aload_n 0, 1) := by decide +kernel
theorem dX9_keeper_65 : decode cX9_keeper 65 = .ok (.getfield 196, 3) := by decide +kernel
theorem dX9_keeper_68 : decode cX9_keeper 68 = .ok (.iload_n 3, 1) := by decide +kernel
theorem dX9_keeper_69 : decode cX9_keeper 69 = .ok (.if_icmp .ne 15, 3) := by decide +kernel
theorem dX9_keeper_72 : decode cX9_keeper 72 = .ok (.aload_n 0, 1) := by decide +kernel
theorem dX9_keeper_73 : decode cX9_keeper 73 = .ok (.getfield 199, 3) := by decide +kernel
theorem dX9_keeper_76 : decode cX9_keeper 76 = .ok (.iload 4, 2) := by decide +kernel
theorem dX9_keeper_78 : decode cX9_keeper 78 = .ok (.if_icmp .lt 6, 3) := by decide +kernel
theorem dX9_keeper_81 : decode cX9_keeper 81 = .ok (.goto 17, 3) := by decide +kernel
theorem dX9_keeper_84 : decode cX9_keeper 84 = .ok (.iload 5, 2) := by decide +kernel
theorem dX9_keeper_86 : decode cX9_keeper 86 = .ok (.istore_n 2, 1) := by decide +kernel
theorem dX9_keeper_87 : decode cX9_keeper 87 = .ok (.aload_n 0, 1) := by decide +kernel
theorem dX9_keeper_88 : decode cX9_keeper 88 = .ok (.getfield 196, 3) := by decide +kernel
theorem dX9_keeper_91 : decode cX9_keeper 91 = .ok (.istore_n 3, 1) := by decide +kernel
theorem dX9_keeper_92 : decode cX9_keeper 92 = .ok (.aload_n 0, 1) := by decide +kernel
theorem dX9_keeper_93 : decode cX9_keeper 93 = .ok (.getfield 199, 3) := by decide +kernel
theorem dX9_keeper_96 : decode cX9_keeper 96 = .ok (.istore 4, 2) := by decide +kernel
theorem dX9_keeper_98 : decode cX9_keeper 98 = .ok (.iinc 5 1, 3) := by decide +kernel
theorem dX9_keeper_101 : decode cX9_keeper 101 = .ok (.goto (-81), 3) := by decide +kernel
theorem dX9_keeper_104 : decode cX9_keeper 104 = .ok (.iload_n 2, 1) := by decide +kernel
theorem dX9_keeper_105 : decode cX9_keeper 105 = .ok (.ireturn, 1) := by decide +kernel
theorem dX9_crosses_0 : decode cX9_crosses 0 = .ok (.aload_n 0, 1) := by decide +kernel
theorem dX9_crosses_1 : decode cX9_crosses 1 = .ok (.getfield 9, 3) := by decide +kernel
theorem dX9_crosses_4 : decode cX9_crosses 4 = .ok (.bipush 53, 2) := by decide +kernel
theorem dX9_crosses_6 : decode cX9_crosses 6 = .ok (.iaload, 1) := by decide +kernel
theorem dX9_crosses_7 : decode cX9_crosses 7 = .ok (.istore_n 3, 1) := by decide +kernel
theorem dX9_crosses_8 : decode cX9_crosses 8 = .ok (.iconst 0, 1) := by decide +kernel
theorem dX9_crosses_9 : decode cX9_crosses 9 = .ok (.istore 4, 2) := by decide +kernel
theorem dX9_crosses_11 : decode cX9_crosses 11 = .ok (.iload 4, 2) := by decide +kernel
theorem dX9_crosses_13 : decode cX9_crosses 13 = .ok (.iload_n 3, 1) := by decide +kernel
theorem dX9_crosses_14 : decode cX9_crosses 14 = .ok (.if_icmp .ge 73, 3) := by decide +kernel
theorem dX9_crosses_17 : decode cX9_crosses 17 = .ok (.iload_n 1, 1) := by decide +kernel
theorem dX9_crosses_18 : decode cX9_crosses 18 = .ok (.ifCond .eq 8, 3) := by decide +kernel
theorem dX9_crosses_21 : decode cX9_crosses 21 = .ok (.iload 4, 2) := by decide +kernel
theorem dX9_crosses_23 : decode cX9_crosses 23 = .ok (.goto 9, 3) := by decide +kernel
theorem dX9_crosses_26 : decode cX9_crosses 26 = .ok (.iload_n 3, 1) := by decide +kernel
theorem dX9_crosses_27 : decode cX9_crosses 27 = .ok (.iconst 1, 1) := by decide +kernel
theorem dX9_crosses_28 : decode cX9_crosses 28 = .ok (.isub, 1) := by decide +kernel
theorem dX9_crosses_29 : decode cX9_crosses 29 = .ok (.iload 4, 2) := by decide +kernel
theorem dX9_crosses_31 : decode cX9_crosses 31 = .ok (.isub, 1) := by decide +kernel
theorem dX9_crosses_32 : decode cX9_crosses 32 = .ok (.istore 5, 2) := by decide +kernel
theorem dX9_crosses_34 : decode cX9_crosses 34 = .ok (.iload_n 2, 1) := by decide +kernel
theorem dX9_crosses_35 : decode cX9_crosses 35 = .ok (.ifCond .eq 17, 3) := by decide +kernel
theorem dX9_crosses_38 : decode cX9_crosses 38 = .ok (.aload_n 0, 1) := by decide +kernel
theorem dX9_crosses_39 : decode cX9_crosses 39 = .ok (.iload 5, 2) := by decide +kernel
theorem dX9_crosses_41 : decode cX9_crosses 41 = .ok (.iload_n 1, 1) := by decide +kernel
theorem dX9_crosses_42 : decode cX9_crosses 42 = .ok (.iconst 0, 1) := by decide +kernel
theorem dX9_crosses_43 : decode cX9_crosses 43 = .ok (.invokevirtual 154, 3) := by decide +kernel
theorem dX9_crosses_46 : decode cX9_crosses 46 = .ok (.ifCond .ne 25, 3) := by decide +kernel
theorem dX9_crosses_49 : decode cX9_crosses 49 = .ok (.goto 14, 3) := by decide +kernel
theorem dX9_crosses_52 : decode cX9_crosses 52 = .ok (.aload_n 0, 1) := by decide +kernel
theorem dX9_crosses_53 : decode cX9_crosses 53 = .ok (.iload 5, 2) := by decide +kernel
theorem dX9_crosses_55 : decode cX9_crosses 55 = .ok (.iload_n 1, 1) := by decide +kernel
theorem dX9_crosses_56 : decode cX9_crosses 56 = .ok (.iconst 0, 1) := by decide +kernel
theorem dX9_crosses_57 : decode cX9_crosses 57 = .ok (.invokevirtual 140, 3) := by decide +kernel
theorem dX9_crosses_60 : decode cX9_crosses 60 = .ok (.ifCond .ne 11, 3) := by decide +kernel
theorem dX9_crosses_63 : decode cX9_crosses 63 = .ok (.aload_n 0, 1) := by decide +kernel
theorem dX9_crosses_64 : decode cX9_crosses 64 = .ok (.iload 5, 2) := by decide +kernel
theorem dX9_crosses_66 : decode cX9_crosses 66 = .ok (.putfield 209, 3) := by decide +kernel
theorem dX9_crosses_69 : decode cX9_crosses 69 = .ok (.iconst 0, 1) := by decide +kernel
theorem dX9_crosses_70 : decode cX9_crosses 70 = .ok (.ireturn, 1) := by decide +kernel
theorem dX9_crosses_71 : decode cX9_crosses 71 = .ok (.aload_n 0, 1) := by decide +kernel
theorem dX9_crosses_72 : decode cX9_crosses 72 = .ok (.dup, 1) := by decide +kernel
theorem dX9_crosses_73 : decode cX9_crosses 73 = .ok (.getfield 196, 3) := by decide +kernel
theorem dX9_crosses_76 : decode cX9_crosses 76 = .ok (.iconst 1, 1) := by decide +kernel
theorem dX9_crosses_77 : decode cX9_crosses 77 = .ok (.iadd, 1) := by decide +kernel
theorem dX9_crosses_78 : decode cX9_crosses 78 = .ok (.putfield 196, 3) := by decide +kernel
theorem dX9_crosses_81 : decode cX9_crosses 81 = .ok (.iinc 4 1, 3) := by decide +kernel
theorem dX9_crosses_84 : decode cX9_crosses 84 = .ok (.goto (-73), 3) := by decide +kernel
theorem dX9_crosses_87 : decode cX9_crosses 87 = .ok (.iconst 1, 1) := by decide +kernel
theorem dX9_crosses_88 : decode cX9_crosses 88 = .ok (.ireturn, 1) := by decide +kernel
theorem dX9_dayGoes_0 : decode cX9_dayGoes 0 = .ok (.aload_n 0, 1) := by decide +kernel
theorem dX9_dayGoes_1 : decode cX9_dayGoes 1 = .ok (.getfield 9, 3) := by decide +kernel
theorem dX9_dayGoes_4 : decode cX9_dayGoes 4 = .ok (.bipush 53, 2) := by decide +kernel
theorem dX9_dayGoes_6 : decode cX9_dayGoes 6 = .ok (.iaload, 1) := by decide +kernel
theorem dX9_dayGoes_7 : decode cX9_dayGoes 7 = .ok (.istore 4, 2) := by decide +kernel
theorem dX9_dayGoes_9 : decode cX9_dayGoes 9 = .ok (.aload_n 0, 1) := by decide +kernel
theorem dX9_dayGoes_10 : decode cX9_dayGoes 10 = .ok (.iconst 0, 1) := by decide +kernel
theorem dX9_dayGoes_11 : decode cX9_dayGoes 11 = .ok (.putfield 196, 3) := by decide +kernel
theorem dX9_dayGoes_14 : decode cX9_dayGoes 14 = .ok (.aload_n 0, 1) := by decide +kernel
theorem dX9_dayGoes_15 : decode cX9_dayGoes 15 = .ok (.bipush (-2), 2) := by decide +kernel
theorem dX9_dayGoes_17 : decode cX9_dayGoes 17 = .ok (.putfield 209, 3) := by decide +kernel
theorem dX9_dayGoes_20 : decode cX9_dayGoes 20 = .ok (.iload 4, 2) := by decide +kernel
theorem dX9_dayGoes_22 : decode cX9_dayGoes 22 = .ok (.istore 5, 2) := by decide +kernel
theorem dX9_dayGoes_24 : decode cX9_dayGoes 24 = .ok (.iload 5, 2) := by decide +kernel
theorem dX9_dayGoes_26 : decode cX9_dayGoes 26 = .ok (.ifCond .lt 53, 3) := by decide +kernel
theorem dX9_dayGoes_29 : decode cX9_dayGoes 29 = .ok (.aload_n 0, 1) := by decide +kernel
theorem dX9_dayGoes_30 : decode cX9_dayGoes 30 = .ok (.getfield 9, 3) := by decide +kernel
theorem dX9_dayGoes_33 : decode cX9_dayGoes 33 = .ok (.bipush 24, 2) := by decide +kernel
theorem dX9_dayGoes_35 : decode cX9_dayGoes 35 = .ok (.iload 5, 2) := by decide +kernel
theorem dX9_dayGoes_37 : decode cX9_dayGoes 37 = .ok (.iadd, 1) := by decide +kernel
theorem dX9_dayGoes_38 : decode cX9_dayGoes 38 = .ok (.aload_n 0, 1) := by decide +kernel
theorem dX9_dayGoes_39 : decode cX9_dayGoes 39 = .ok (.getfield 9, 3) := by decide +kernel
theorem dX9_dayGoes_42 : decode cX9_dayGoes 42 = .ok (.bipush 31, 2) := by decide +kernel
theorem dX9_dayGoes_44 : decode cX9_dayGoes 44 = .ok (.iload 5, 2) := by decide +kernel
theorem dX9_dayGoes_46 : decode cX9_dayGoes 46 = .ok (.iadd, 1) := by decide +kernel
theorem dX9_dayGoes_47 : decode cX9_dayGoes 47 = .ok (.iaload, 1) := by decide +kernel
theorem dX9_dayGoes_48 : decode cX9_dayGoes 48 = .ok (.aload_n 0, 1) := by decide +kernel
theorem dX9_dayGoes_49 : decode cX9_dayGoes 49 = .ok (.getfield 9, 3) := by decide +kernel
theorem dX9_dayGoes_52 : decode cX9_dayGoes 52 = .ok (.bipush 24, 2) := by decide +kernel
theorem dX9_dayGoes_54 : decode cX9_dayGoes 54 = .ok (.iload 5, 2) := by decide +kernel
theorem dX9_dayGoes_56 : decode cX9_dayGoes 56 = .ok (.iadd, 1) := by decide +kernel
theorem dX9_dayGoes_57 : decode cX9_dayGoes 57 = .ok (.iaload, 1) := by decide +kernel
theorem dX9_dayGoes_58 : decode cX9_dayGoes 58 = .ok (.aload_n 0, 1) := by decide +kernel
theorem dX9_dayGoes_59 : decode cX9_dayGoes 59 = .ok (.getfield 9, 3) := by decide +kernel
theorem dX9_dayGoes_62 : decode cX9_dayGoes 62 = .ok (.bipush 45, 2) := by decide +kernel
theorem dX9_dayGoes_64 : decode cX9_dayGoes 64 = .ok (.iload 5, 2) := by decide +kernel
theorem dX9_dayGoes_66 : decode cX9_dayGoes 66 = .ok (.iadd, 1) := by decide +kernel
theorem dX9_dayGoes_67 : decode cX9_dayGoes 67 = .ok (.iaload, 1) := by decide +kernel
theorem dX9_dayGoes_68 : decode cX9_dayGoes 68 = .ok (.isub, 1) := by decide +kernel
theorem dX9_dayGoes_69 : decode cX9_dayGoes 69 = .ok (.invokestatic 212, 3) := by decide +kernel
theorem dX9_dayGoes_72 : decode cX9_dayGoes 72 = .ok (.iastore, 1) := by decide +kernel
theorem dX9_dayGoes_73 : decode cX9_dayGoes 73 = .ok (.iinc 5 (-1), 3) := by decide +kernel
theorem dX9_dayGoes_76 : decode cX9_dayGoes 76 = .ok (.goto (-52), 3) := by decide +kernel
theorem dX9_dayGoes_79 : decode cX9_dayGoes 79 = .ok (.aload_n 0, 1) := by decide +kernel
theorem dX9_dayGoes_80 : decode cX9_dayGoes 80 = .ok (.getfield 9, 3) := by decide +kernel
theorem dX9_dayGoes_83 : decode cX9_dayGoes 83 = .ok (.bipush 24, 2) := by decide +kernel
theorem dX9_dayGoes_85 : decode cX9_dayGoes 85 = .ok (.iload 4, 2) := by decide +kernel
theorem dX9_dayGoes_87 : decode cX9_dayGoes 87 = .ok (.iadd, 1) := by decide +kernel
theorem dX9_dayGoes_88 : decode cX9_dayGoes 88 = .ok (.aload_n 0, 1) := by decide +kernel
theorem dX9_dayGoes_89 : decode cX9_dayGoes 89 = .ok (.getfield 9, 3) := by decide +kernel
theorem dX9_dayGoes_92 : decode cX9_dayGoes 92 = .ok (.bipush 38, 2) := by decide +kernel
theorem dX9_dayGoes_94 : decode cX9_dayGoes 94 = .ok (.iload 4, 2) := by decide +kernel
theorem dX9_dayGoes_96 : decode cX9_dayGoes 96 = .ok (.iadd, 1) := by decide +kernel
theorem dX9_dayGoes_97 : decode cX9_dayGoes 97 = .ok (.iaload, 1) := by decide +kernel
theorem dX9_dayGoes_98 : decode cX9_dayGoes 98 = .ok (.aload_n 0, 1) := by decide +kernel
theorem dX9_dayGoes_99 : decode cX9_dayGoes 99 = .ok (.getfield 9, 3) := by decide +kernel
theorem dX9_dayGoes_102 : decode cX9_dayGoes 102 = .ok (.bipush 24, 2) := by decide +kernel
theorem dX9_dayGoes_104 : decode cX9_dayGoes 104 = .ok (.iload 4, 2) := by decide +kernel
theorem dX9_dayGoes_106 : decode cX9_dayGoes 106 = .ok (.iadd, 1) := by decide +kernel
theorem dX9_dayGoes_107 : decode cX9_dayGoes 107 = .ok (.iaload, 1) := by decide +kernel
theorem dX9_dayGoes_108 : decode cX9_dayGoes 108 = .ok (.aload_n 0, 1) := by decide +kernel
theorem dX9_dayGoes_109 : decode cX9_dayGoes 109 = .ok (.getfield 9, 3) := by decide +kernel
theorem dX9_dayGoes_112 : decode cX9_dayGoes 112 = .ok (.bipush 52, 2) := by decide +kernel
theorem dX9_dayGoes_114 : decode cX9_dayGoes 114 = .ok (.iaload, 1) := by decide +kernel
theorem dX9_dayGoes_115 : decode cX9_dayGoes 115 = .ok (.iadd, 1) := by decide +kernel
theorem dX9_dayGoes_116 : decode cX9_dayGoes 116 = .ok (.invokestatic 177, 3) := by decide +kernel
theorem dX9_dayGoes_119 : decode cX9_dayGoes 119 = .ok (.iastore, 1) := by decide +kernel
theorem dX9_dayGoes_120 : decode cX9_dayGoes 120 = .ok (.iload_n 1, 1) := by decide +kernel
theorem dX9_dayGoes_121 : decode cX9_dayGoes 121 = .ok (.istore 5, 2) := by decide +kernel
theorem dX9_dayGoes_123 : decode cX9_dayGoes 123 = .ok (.iload_n 2, 1) := by decide +kernel
theorem dX9_dayGoes_124 : decode cX9_dayGoes 124 = .ok (.istore 6, 2) := by decide +kernel
theorem dX9_dayGoes_126 : decode cX9_dayGoes 126 = .ok (.iconst 1, 1) := by decide +kernel
theorem dX9_dayGoes_127 : decode cX9_dayGoes 127 = .ok (.istore 7, 2) := by decide +kernel
theorem dX9_dayGoes_129 : decode cX9_dayGoes 129 = .ok (.iload 5, 2) := by decide +kernel
theorem dX9_dayGoes_131 : decode cX9_dayGoes 131 = .ok (.ifCond .gt 8, 3) := by decide +kernel
theorem dX9_dayGoes_134 : decode cX9_dayGoes 134 = .ok (.iload 6, 2) := by decide +kernel
theorem dX9_dayGoes_136 : decode cX9_dayGoes 136 = .ok (.ifCond .le 65, 3) := by decide +kernel
theorem dX9_dayGoes_139 : decode cX9_dayGoes 139 = .ok (.iload 6, 2) := by decide +kernel
theorem dX9_dayGoes_141 : decode cX9_dayGoes 141 = .ok (.ifCond .eq 13, 3) := by decide +kernel
theorem dX9_dayGoes_144 : decode cX9_dayGoes 144 = .ok (.iload 5, 2) := by decide +kernel
theorem dX9_dayGoes_146 : decode cX9_dayGoes 146 = .ok (.ifCond .le 12, 3) := by decide +kernel
theorem dX9_dayGoes_149 : decode cX9_dayGoes 149 = .ok (.iload 7, 2) := by decide +kernel
theorem dX9_dayGoes_151 : decode cX9_dayGoes 151 = .ok (.ifCond .eq 7, 3) := by decide +kernel
theorem dX9_dayGoes_154 : decode cX9_dayGoes 154 = .ok (.iconst 1, 1) := by decide +kernel
theorem dX9_dayGoes_155 : decode cX9_dayGoes 155 = .ok (.goto 4, 3) := by decide +kernel
theorem dX9_dayGoes_158 : decode cX9_dayGoes 158 = .ok (.iconst 0, 1) := by decide +kernel
theorem dX9_dayGoes_159 : decode cX9_dayGoes 159 = .ok (.istore 8, 2) := by decide +kernel
theorem dX9_dayGoes_161 : decode cX9_dayGoes 161 = .ok (.aload_n 0, 1) := by decide +kernel
theorem dX9_dayGoes_162 : decode cX9_dayGoes 162 = .ok (.iload 8, 2) := by decide +kernel
theorem dX9_dayGoes_164 : decode cX9_dayGoes 164 = .ok (.iload_n 3, 1) := by decide +kernel
theorem dX9_dayGoes_165 : decode cX9_dayGoes 165 = .ok (.invokevirtual 215, 3) := by decide +kernel
theorem dX9_dayGoes_168 : decode cX9_dayGoes 168 = .ok (.ifCond .ne 4, 3) := by decide +kernel
theorem dX9_dayGoes_171 : decode cX9_dayGoes 171 = .ok (.return_, 1) := by decide +kernel
theorem dX9_dayGoes_172 : decode cX9_dayGoes 172 = .ok (.iload 8, 2) := by decide +kernel
theorem dX9_dayGoes_174 : decode cX9_dayGoes 174 = .ok (.ifCond .eq 9, 3) := by decide +kernel
theorem dX9_dayGoes_177 : decode cX9_dayGoes 177 = .ok (.iinc 5 (-1), 3) := by decide +kernel
theorem dX9_dayGoes_180 : decode cX9_dayGoes 180 = .ok (.goto 6, 3) := by decide +kernel
theorem dX9_dayGoes_183 : decode cX9_dayGoes 183 = .ok (.iinc 6 (-1), 3) := by decide +kernel
theorem dX9_dayGoes_186 : decode cX9_dayGoes 186 = .ok (.iload 8, 2) := by decide +kernel
theorem dX9_dayGoes_188 : decode cX9_dayGoes 188 = .ok (.ifCond .ne 7, 3) := by decide +kernel
theorem dX9_dayGoes_191 : decode cX9_dayGoes 191 = .ok (.iconst 1, 1) := by decide +kernel
theorem dX9_dayGoes_192 : decode cX9_dayGoes 192 = .ok (.goto 4, 3) := by decide +kernel
theorem dX9_dayGoes_195 : decode cX9_dayGoes 195 = .ok (.iconst 0, 1) := by decide +kernel
theorem dX9_dayGoes_196 : decode cX9_dayGoes 196 = .ok (.istore 7, 2) := by decide +kernel
theorem dX9_dayGoes_198 : decode cX9_dayGoes 198 = .ok (.goto (-69), 3) := by decide +kernel
theorem dX9_dayGoes_201 : decode cX9_dayGoes 201 = .ok (.return_, 1) := by decide +kernel
theorem dX9_isTraffic_0 : decode cX9_isTraffic 0 = .ok (.iload_n 0, 1) := by decide +kernel
theorem dX9_isTraffic_1 : decode cX9_isTraffic 1 = .ok (.iconst 0, 1) := by decide +kernel
theorem dX9_isTraffic_2 : decode cX9_isTraffic 2 = .ok (.iconst 4, 1) := by decide +kernel
theorem dX9_isTraffic_3 : decode cX9_isTraffic 3 = .ok (.invokestatic 46, 3) := by decide +kernel
theorem dX9_isTraffic_6 : decode cX9_isTraffic 6 = .ok (.ifCond .eq 16, 3) := by decide +kernel
theorem dX9_isTraffic_9 : decode cX9_isTraffic 9 = .ok (.iload_n 1, 1) := by decide +kernel
theorem dX9_isTraffic_10 : decode cX9_isTraffic 10 = .ok (.iconst 0, 1) := by decide +kernel
theorem dX9_isTraffic_11 : decode cX9_isTraffic 11 = .ok (.iconst 4, 1) := by decide +kernel
theorem dX9_isTraffic_12 : decode cX9_isTraffic 12 = .ok (.invokestatic 46, 3) := by decide +kernel
theorem dX9_isTraffic_15 : decode cX9_isTraffic 15 = .ok (.ifCond .eq 7, 3) := by decide +kernel
theorem dX9_isTraffic_18 : decode cX9_isTraffic 18 = .ok (.iconst 1, 1) := by decide +kernel
theorem dX9_isTraffic_19 : decode cX9_isTraffic 19 = .ok (.goto 4, 3) := by decide +kernel
theorem dX9_isTraffic_22 : decode cX9_isTraffic 22 = .ok (.iconst 0, 1) := by decide +kernel
theorem dX9_isTraffic_23 : decode cX9_isTraffic 23 = .ok (.ireturn, 1) := by decide +kernel
theorem dX9_day_0 : decode cX9_day 0 = .ok (.iload_n 1, 1) := by decide +kernel
theorem dX9_day_1 : decode cX9_day 1 = .ok (.iload_n 2, 1) := by decide +kernel
theorem dX9_day_2 : decode cX9_day 2 = .ok (.invokestatic 219, 3) := by decide +kernel
theorem dX9_day_5 : decode cX9_day 5 = .ok (.ifCond .ne 5, 3) := by decide +kernel
theorem dX9_day_8 : decode cX9_day 8 = .ok (.iconst (-1), 1) := by decide +kernel
theorem dX9_day_9 : decode cX9_day 9 = .ok (.ireturn, 1) := by decide +kernel
theorem dX9_day_10 : decode cX9_day 10 = .ok (.aload_n 0, 1) := by decide +kernel
theorem dX9_day_11 : decode cX9_day 11 = .ok (.iload_n 1, 1) := by decide +kernel
theorem dX9_day_12 : decode cX9_day 12 = .ok (.iload_n 2, 1) := by decide +kernel
theorem dX9_day_13 : decode cX9_day 13 = .ok (.iconst 1, 1) := by decide +kernel
theorem dX9_day_14 : decode cX9_day 14 = .ok (.invokevirtual 222, 3) := by decide +kernel
theorem dX9_day_17 : decode cX9_day 17 = .ok (.aload_n 0, 1) := by decide +kernel
theorem dX9_day_18 : decode cX9_day 18 = .ok (.getfield 196, 3) := by decide +kernel
theorem dX9_day_21 : decode cX9_day 21 = .ok (.ireturn, 1) := by decide +kernel
theorem dX9_dry_0 : decode cX9_dry 0 = .ok (.iload_n 1, 1) := by decide +kernel
theorem dX9_dry_1 : decode cX9_dry 1 = .ok (.iload_n 2, 1) := by decide +kernel
theorem dX9_dry_2 : decode cX9_dry 2 = .ok (.invokestatic 219, 3) := by decide +kernel
theorem dX9_dry_5 : decode cX9_dry 5 = .ok (.ifCond .eq 12, 3) := by decide +kernel
theorem dX9_dry_8 : decode cX9_dry 8 = .ok (.iload_n 3, 1) := by decide +kernel
theorem dX9_dry_9 : decode cX9_dry 9 = .ok (.iconst 0, 1) := by decide +kernel
theorem dX9_dry_10 : decode cX9_dry 10 = .ok (.iconst 1, 1) := by decide +kernel
theorem dX9_dry_11 : decode cX9_dry 11 = .ok (.invokestatic 46, 3) := by decide +kernel
theorem dX9_dry_14 : decode cX9_dry 14 = .ok (.ifCond .ne 5, 3) := by decide +kernel
theorem dX9_dry_17 : decode cX9_dry 17 = .ok (.iconst (-1), 1) := by decide +kernel
theorem dX9_dry_18 : decode cX9_dry 18 = .ok (.ireturn, 1) := by decide +kernel
theorem dX9_dry_19 : decode cX9_dry 19 = .ok (.aload_n 0, 1) := by decide +kernel
theorem dX9_dry_20 : decode cX9_dry 20 = .ok (.getfield 9, 3) := by decide +kernel
theorem dX9_dry_23 : decode cX9_dry 23 = .ok (.aload_n 0, 1) := by decide +kernel
theorem dX9_dry_24 : decode cX9_dry 24 = .ok (.getfield 18, 3) := by decide +kernel
theorem dX9_dry_27 : decode cX9_dry 27 = .ok (.invokestatic 105, 3) := by decide +kernel
theorem dX9_dry_30 : decode cX9_dry 30 = .ok (.iconst 0, 1) := by decide +kernel
theorem dX9_dry_31 : decode cX9_dry 31 = .ok (.istore 4, 2) := by decide +kernel
theorem dX9_dry_33 : decode cX9_dry 33 = .ok (.aload_n 0, 1) := by decide +kernel
theorem dX9_dry_34 : decode cX9_dry 34 = .ok (.bipush (-2), 2) := by decide +kernel
theorem dX9_dry_36 : decode cX9_dry 36 = .ok (.putfield 209, 3) := by decide +kernel
theorem dX9_dry_39 : decode cX9_dry 39 = .ok (.iload 4, 2) := by decide +kernel
theorem dX9_dry_41 : decode cX9_dry 41 = .ok (.bipush 40, 2) := by decide +kernel
theorem dX9_dry_43 : decode cX9_dry 43 = .ok (.if_icmp .gt 25, 3) := by decide +kernel
theorem dX9_dry_46 : decode cX9_dry 46 = .ok (.aload_n 0, 1) := by decide +kernel
theorem dX9_dry_47 : decode cX9_dry 47 = .ok (.getfield 209, 3) := by decide +kernel
theorem dX9_dry_50 : decode cX9_dry 50 = .ok (.bipush (-2), 2) := by decide +kernel
theorem dX9_dry_52 : decode cX9_dry 52 = .ok (.if_icmp .ne 16, 3) := by decide +kernel
theorem dX9_dry_55 : decode cX9_dry 55 = .ok (.aload_n 0, 1) := by decide +kernel
theorem dX9_dry_56 : decode cX9_dry 56 = .ok (.iload_n 1, 1) := by decide +kernel
theorem dX9_dry_57 : decode cX9_dry 57 = .ok (.iload_n 2, 1) := by decide +kernel
theorem dX9_dry_58 : decode cX9_dry 58 = .ok (.iconst 0, 1) := by decide +kernel
theorem dX9_dry_59 : decode cX9_dry 59 = .ok (.invokevirtual 222, 3) := by decide +kernel
theorem dX9_dry_62 : decode cX9_dry 62 = .ok (.iinc 4 1, 3) := by decide +kernel
theorem dX9_dry_65 : decode cX9_dry 65 = .ok (.goto (-26), 3) := by decide +kernel
theorem dX9_dry_68 : decode cX9_dry 68 = .ok (.aload_n 0, 1) := by decide +kernel
theorem dX9_dry_69 : decode cX9_dry 69 = .ok (.getfield 18, 3) := by decide +kernel
theorem dX9_dry_72 : decode cX9_dry 72 = .ok (.aload_n 0, 1) := by decide +kernel
theorem dX9_dry_73 : decode cX9_dry 73 = .ok (.getfield 9, 3) := by decide +kernel
theorem dX9_dry_76 : decode cX9_dry 76 = .ok (.invokestatic 105, 3) := by decide +kernel
theorem dX9_dry_79 : decode cX9_dry 79 = .ok (.aload_n 0, 1) := by decide +kernel
theorem dX9_dry_80 : decode cX9_dry 80 = .ok (.getfield 209, 3) := by decide +kernel
theorem dX9_dry_83 : decode cX9_dry 83 = .ok (.bipush (-2), 2) := by decide +kernel
theorem dX9_dry_85 : decode cX9_dry 85 = .ok (.if_icmp .ne 8, 3) := by decide +kernel
theorem dX9_dry_88 : decode cX9_dry 88 = .ok (.bipush (-2), 2) := by decide +kernel
theorem dX9_dry_90 : decode cX9_dry 90 = .ok (.goto 18, 3) := by decide +kernel
theorem dX9_dry_93 : decode cX9_dry 93 = .ok (.iload_n 3, 1) := by decide +kernel
theorem dX9_dry_94 : decode cX9_dry 94 = .ok (.ifCond .ne 10, 3) := by decide +kernel
theorem dX9_dry_97 : decode cX9_dry 97 = .ok (.iload 4, 2) := by decide +kernel
theorem dX9_dry_99 : decode cX9_dry 99 = .ok (.iconst 1, 1) := by decide +kernel
theorem dX9_dry_100 : decode cX9_dry 100 = .ok (.isub, 1) := by decide +kernel
theorem dX9_dry_101 : decode cX9_dry 101 = .ok (.goto 7, 3) := by decide +kernel
theorem dX9_dry_104 : decode cX9_dry 104 = .ok (.aload_n 0, 1) := by decide +kernel
theorem dX9_dry_105 : decode cX9_dry 105 = .ok (.getfield 209, 3) := by decide +kernel
theorem dX9_dry_108 : decode cX9_dry 108 = .ok (.ireturn, 1) := by decide +kernel
theorem dX9_summit_0 : decode cX9_summit 0 = .ok (.iconst 0, 1) := by decide +kernel
theorem dX9_summit_1 : decode cX9_summit 1 = .ok (.istore 4, 2) := by decide +kernel
theorem dX9_summit_3 : decode cX9_summit 3 = .ok (.iload 4, 2) := by decide +kernel
theorem dX9_summit_5 : decode cX9_summit 5 = .ok (.iload_n 3, 1) := by decide +kernel
theorem dX9_summit_6 : decode cX9_summit 6 = .ok (.if_icmp .ge 16, 3) := by decide +kernel
theorem dX9_summit_9 : decode cX9_summit 9 = .ok (.aload_n 0, 1) := by decide +kernel
theorem dX9_summit_10 : decode cX9_summit 10 = .ok (.iload_n 1, 1) := by decide +kernel
theorem dX9_summit_11 : decode cX9_summit 11 = .ok (.iload_n 2, 1) := by decide +kernel
theorem dX9_summit_12 : decode cX9_summit 12 = .ok (.iconst 0, 1) := by decide +kernel
theorem dX9_summit_13 : decode cX9_summit 13 = .ok (.invokevirtual 222, 3) := by decide +kernel
theorem dX9_summit_16 : decode cX9_summit 16 = .ok (.iinc 4 1, 3) := by decide +kernel
theorem dX9_summit_19 : decode cX9_summit 19 = .ok (.goto (-16), 3) := by decide +kernel
theorem dX9_summit_22 : decode cX9_summit 22 = .ok (.aload_n 0, 1) := by decide +kernel
theorem dX9_summit_23 : decode cX9_summit 23 = .ok (.getfield 9, 3) := by decide +kernel
theorem dX9_summit_26 : decode cX9_summit 26 = .ok (.bipush 24, 2) := by decide +kernel
theorem dX9_summit_28 : decode cX9_summit 28 = .ok (.aload_n 0, 1) := by decide +kernel
theorem dX9_summit_29 : decode cX9_summit 29 = .ok (.getfield 9, 3) := by decide +kernel
theorem dX9_summit_32 : decode cX9_summit 32 = .ok (.bipush 53, 2) := by decide +kernel
theorem dX9_summit_34 : decode cX9_summit 34 = .ok (.iaload, 1) := by decide +kernel
theorem dX9_summit_35 : decode cX9_summit 35 = .ok (.iadd, 1) := by decide +kernel
theorem dX9_summit_36 : decode cX9_summit 36 = .ok (.iaload, 1) := by decide +kernel
theorem dX9_summit_37 : decode cX9_summit 37 = .ok (.ireturn, 1) := by decide +kernel
theorem dX9_pond_0 : decode cX9_pond 0 = .ok (.iload_n 1, 1) := by decide +kernel
theorem dX9_pond_1 : decode cX9_pond 1 = .ok (.iload_n 2, 1) := by decide +kernel
theorem dX9_pond_2 : decode cX9_pond 2 = .ok (.invokestatic 219, 3) := by decide +kernel
theorem dX9_pond_5 : decode cX9_pond 5 = .ok (.ifCond .eq 13, 3) := by decide +kernel
theorem dX9_pond_8 : decode cX9_pond 8 = .ok (.iload_n 3, 1) := by decide +kernel
theorem dX9_pond_9 : decode cX9_pond 9 = .ok (.iconst 1, 1) := by decide +kernel
theorem dX9_pond_10 : decode cX9_pond 10 = .ok (.bipush 20, 2) := by decide +kernel
theorem dX9_pond_12 : decode cX9_pond 12 = .ok (.invokestatic 46, 3) := by decide +kernel
theorem dX9_pond_15 : decode cX9_pond 15 = .ok (.ifCond .ne 5, 3) := by decide +kernel
theorem dX9_pond_18 : decode cX9_pond 18 = .ok (.iconst (-1), 1) := by decide +kernel
theorem dX9_pond_19 : decode cX9_pond 19 = .ok (.ireturn, 1) := by decide +kernel
theorem dX9_pond_20 : decode cX9_pond 20 = .ok (.aload_n 0, 1) := by decide +kernel
theorem dX9_pond_21 : decode cX9_pond 21 = .ok (.getfield 9, 3) := by decide +kernel
theorem dX9_pond_24 : decode cX9_pond 24 = .ok (.aload_n 0, 1) := by decide +kernel
theorem dX9_pond_25 : decode cX9_pond 25 = .ok (.getfield 18, 3) := by decide +kernel
theorem dX9_pond_28 : decode cX9_pond 28 = .ok (.invokestatic 105, 3) := by decide +kernel
theorem dX9_pond_31 : decode cX9_pond 31 = .ok (.aload_n 0, 1) := by decide +kernel
theorem dX9_pond_32 : decode cX9_pond 32 = .ok (.iload_n 1, 1) := by decide +kernel
theorem dX9_pond_33 : decode cX9_pond 33 = .ok (.iload_n 2, 1) := by decide +kernel
theorem dX9_pond_34 : decode cX9_pond 34 = .ok (.iload_n 3, 1) := by decide +kernel
theorem dX9_pond_35 : decode cX9_pond 35 = .ok (.invokevirtual 225, 3) := by decide +kernel
theorem dX9_pond_38 : decode cX9_pond 38 = .ok (.istore 4, 2) := by decide +kernel
theorem dX9_pond_40 : decode cX9_pond 40 = .ok (.bipush (-2), 2) := by decide +kernel
theorem dX9_pond_42 : decode cX9_pond 42 = .ok (.istore 5, 2) := by decide +kernel
theorem dX9_pond_44 : decode cX9_pond 44 = .ok (.iconst 0, 1) := by decide +kernel
theorem dX9_pond_45 : decode cX9_pond 45 = .ok (.istore 6, 2) := by decide +kernel
theorem dX9_pond_47 : decode cX9_pond 47 = .ok (.iload 6, 2) := by decide +kernel
theorem dX9_pond_49 : decode cX9_pond 49 = .ok (.aload_n 0, 1) := by decide +kernel
theorem dX9_pond_50 : decode cX9_pond 50 = .ok (.getfield 9, 3) := by decide +kernel
theorem dX9_pond_53 : decode cX9_pond 53 = .ok (.bipush 53, 2) := by decide +kernel
theorem dX9_pond_55 : decode cX9_pond 55 = .ok (.iaload, 1) := by decide +kernel
theorem dX9_pond_56 : decode cX9_pond 56 = .ok (.if_icmp .ge 105, 3) := by decide +kernel
theorem dX9_pond_59 : decode cX9_pond 59 = .ok (.aload_n 0, 1) := by decide +kernel
theorem dX9_pond_60 : decode cX9_pond 60 = .ok (.getfield 18, 3) := by decide +kernel
theorem dX9_pond_63 : decode cX9_pond 63 = .ok (.aload_n 0, 1) := by decide +kernel
theorem dX9_pond_64 : decode cX9_pond 64 = .ok (.getfield 9, 3) := by decide +kernel
theorem dX9_pond_67 : decode cX9_pond 67 = .ok (.invokestatic 105, 3) := by decide +kernel
theorem dX9_pond_70 : decode cX9_pond 70 = .ok (.aload_n 0, 1) := by decide +kernel
theorem dX9_pond_71 : decode cX9_pond 71 = .ok (.getfield 9, 3) := by decide +kernel
theorem dX9_pond_74 : decode cX9_pond 74 = .ok (.bipush 6, 2) := by decide +kernel
theorem dX9_pond_76 : decode cX9_pond 76 = .ok (.iload 6, 2) := by decide +kernel
theorem dX9_pond_78 : decode cX9_pond 78 = .ok (.iadd, 1) := by decide +kernel
theorem dX9_pond_79 : decode cX9_pond 79 = .ok (.iaload, 1) := by decide +kernel
theorem dX9_pond_80 : decode cX9_pond 80 = .ok (.iconst 3, 1) := by decide +kernel
theorem dX9_pond_81 : decode cX9_pond 81 = .ok (.if_icmp .eq 74, 3) := by decide +kernel
theorem dX9_pond_84 : decode cX9_pond 84 = .ok (.aload_n 0, 1) := by decide +kernel
theorem dX9_pond_85 : decode cX9_pond 85 = .ok (.getfield 9, 3) := by decide +kernel
theorem dX9_pond_88 : decode cX9_pond 88 = .ok (.bipush 18, 2) := by decide +kernel
theorem dX9_pond_90 : decode cX9_pond 90 = .ok (.iload 6, 2) := by decide +kernel
theorem dX9_pond_92 : decode cX9_pond 92 = .ok (.iadd, 1) := by decide +kernel
theorem dX9_pond_93 : decode cX9_pond 93 = .ok (.iaload, 1) := by decide +kernel
theorem dX9_pond_94 : decode cX9_pond 94 = .ok (.iconst 1, 1) := by decide +kernel
theorem dX9_pond_95 : decode cX9_pond 95 = .ok (.if_icmp .eq 60, 3) := by decide +kernel
theorem dX9_pond_98 : decode cX9_pond 98 = .ok (.aload_n 0, 1) := by decide +kernel
theorem dX9_pond_99 : decode cX9_pond 99 = .ok (.getfield 9, 3) := by decide +kernel
theorem dX9_pond_102 : decode cX9_pond 102 = .ok (.bipush 12, 2) := by decide +kernel
theorem dX9_pond_104 : decode cX9_pond 104 = .ok (.iload 6, 2) := by decide +kernel
theorem dX9_pond_106 : decode cX9_pond 106 = .ok (.iadd, 1) := by decide +kernel
theorem dX9_pond_107 : decode cX9_pond 107 = .ok (.iaload, 1) := by decide +kernel
theorem dX9_pond_108 : decode cX9_pond 108 = .ok (.ifCond .le 6, 3) := by decide +kernel
theorem dX9_pond_111 : decode cX9_pond 111 = .ok (.goto 44, 3) := by decide +kernel
theorem dX9_pond_114 : decode cX9_pond 114 = .ok (.aload_n 0, 1) := by decide +kernel
theorem dX9_pond_115 : decode cX9_pond 115 = .ok (.getfield 9, 3) := by decide +kernel
theorem dX9_pond_118 : decode cX9_pond 118 = .ok (.bipush 6, 2) := by decide +kernel
theorem dX9_pond_120 : decode cX9_pond 120 = .ok (.iload 6, 2) := by decide +kernel
theorem dX9_pond_122 : decode cX9_pond 122 = .ok (.iadd, 1) := by decide +kernel
theorem dX9_pond_123 : decode cX9_pond 123 = .ok (.dup2, 1) := by decide +kernel
theorem dX9_pond_124 : decode cX9_pond 124 = .ok (.iaload, 1) := by decide +kernel
theorem dX9_pond_125 : decode cX9_pond 125 = .ok (.iconst 1, 1) := by decide +kernel
theorem dX9_pond_126 : decode cX9_pond 126 = .ok (.iadd, 1) := by decide +kernel
theorem dX9_pond_127 : decode cX9_pond 127 = .ok (.iastore, 1) := by decide +kernel
theorem dX9_pond_128 : decode cX9_pond 128 = .ok (.aload_n 0, 1) := by decide +kernel
theorem dX9_pond_129 : decode cX9_pond 129 = .ok (.iload_n 1, 1) := by decide +kernel
theorem dX9_pond_130 : decode cX9_pond 130 = .ok (.iload_n 2, 1) := by decide +kernel
theorem dX9_pond_131 : decode cX9_pond 131 = .ok (.iload_n 3, 1) := by decide +kernel
theorem dX9_pond_132 : decode cX9_pond 132 = .ok (.invokevirtual 225, 3) := by decide +kernel
theorem dX9_pond_135 : decode cX9_pond 135 = .ok (.istore 7, 2) := by decide +kernel
theorem dX9_pond_137 : decode cX9_pond 137 = .ok (.iload 7, 2) := by decide +kernel
theorem dX9_pond_139 : decode cX9_pond 139 = .ok (.iload 4, 2) := by decide +kernel
theorem dX9_pond_141 : decode cX9_pond 141 = .ok (.if_icmp .gt 6, 3) := by decide +kernel
theorem dX9_pond_144 : decode cX9_pond 144 = .ok (.goto 11, 3) := by decide +kernel
theorem dX9_pond_147 : decode cX9_pond 147 = .ok (.iload 7, 2) := by decide +kernel
theorem dX9_pond_149 : decode cX9_pond 149 = .ok (.istore 4, 2) := by decide +kernel
theorem dX9_pond_151 : decode cX9_pond 151 = .ok (.iload 6, 2) := by decide +kernel
theorem dX9_pond_153 : decode cX9_pond 153 = .ok (.istore 5, 2) := by decide +kernel
theorem dX9_pond_155 : decode cX9_pond 155 = .ok (.iinc 6 1, 3) := by decide +kernel
theorem dX9_pond_158 : decode cX9_pond 158 = .ok (.goto (-111), 3) := by decide +kernel
theorem dX9_pond_161 : decode cX9_pond 161 = .ok (.aload_n 0, 1) := by decide +kernel
theorem dX9_pond_162 : decode cX9_pond 162 = .ok (.getfield 18, 3) := by decide +kernel
theorem dX9_pond_165 : decode cX9_pond 165 = .ok (.aload_n 0, 1) := by decide +kernel
theorem dX9_pond_166 : decode cX9_pond 166 = .ok (.getfield 9, 3) := by decide +kernel
theorem dX9_pond_169 : decode cX9_pond 169 = .ok (.invokestatic 105, 3) := by decide +kernel
theorem dX9_pond_172 : decode cX9_pond 172 = .ok (.iload 5, 2) := by decide +kernel
theorem dX9_pond_174 : decode cX9_pond 174 = .ok (.ireturn, 1) := by decide +kernel
theorem dX9_water_0 : decode cX9_water 0 = .ok (.iconst 0, 1) := by decide +kernel
theorem dX9_water_1 : decode cX9_water 1 = .ok (.istore_n 1, 1) := by decide +kernel
theorem dX9_water_2 : decode cX9_water 2 = .ok (.iconst 0, 1) := by decide +kernel
theorem dX9_water_3 : decode cX9_water 3 = .ok (.istore_n 2, 1) := by decide +kernel
theorem dX9_water_4 : decode cX9_water 4 = .ok (.iload_n 2, 1) := by decide +kernel
theorem dX9_water_5 : decode cX9_water 5 = .ok (.aload_n 0, 1) := by decide +kernel
theorem dX9_water_6 : decode cX9_water 6 = .ok (.getfield 9, 3) := by decide +kernel
theorem dX9_water_9 : decode cX9_water 9 = .ok (.bipush 53, 2) := by decide +kernel
theorem dX9_water_11 : decode cX9_water 11 = .ok (.iaload, 1) := by decide +kernel
theorem dX9_water_12 : decode cX9_water 12 = .ok (.if_icmp .gt 21, 3) := by decide +kernel
theorem dX9_water_15 : decode cX9_water 15 = .ok (.iload_n 1, 1) := by decide +kernel
theorem dX9_water_16 : decode cX9_water 16 = .ok (.aload_n 0, 1) := by decide +kernel
theorem dX9_water_17 : decode cX9_water 17 = .ok (.getfield 9, 3) := by decide +kernel
theorem dX9_water_20 : decode cX9_water 20 = .ok (.bipush 24, 2) := by decide +kernel
theorem dX9_water_22 : decode cX9_water 22 = .ok (.iload_n 2, 1) := by decide +kernel
theorem dX9_water_23 : decode cX9_water 23 = .ok (.iadd, 1) := by decide +kernel
theorem dX9_water_24 : decode cX9_water 24 = .ok (.iaload, 1) := by decide +kernel
theorem dX9_water_25 : decode cX9_water 25 = .ok (.iadd, 1) := by decide +kernel
theorem dX9_water_26 : decode cX9_water 26 = .ok (.istore_n 1, 1) := by decide +kernel
theorem dX9_water_27 : decode cX9_water 27 = .ok (.iinc 2 1, 3) := by decide +kernel
theorem dX9_water_30 : decode cX9_water 30 = .ok (.goto (-26), 3) := by decide +kernel
theorem dX9_water_33 : decode cX9_water 33 = .ok (.iconst 0, 1) := by decide +kernel
theorem dX9_water_34 : decode cX9_water 34 = .ok (.istore_n 2, 1) := by decide +kernel
theorem dX9_water_35 : decode cX9_water 35 = .ok (.iload_n 2, 1) := by decide +kernel
theorem dX9_water_36 : decode cX9_water 36 = .ok (.aload_n 0, 1) := by decide +kernel
theorem dX9_water_37 : decode cX9_water 37 = .ok (.getfield 9, 3) := by decide +kernel
theorem dX9_water_40 : decode cX9_water 40 = .ok (.bipush 53, 2) := by decide +kernel
theorem dX9_water_42 : decode cX9_water 42 = .ok (.iaload, 1) := by decide +kernel
theorem dX9_water_43 : decode cX9_water 43 = .ok (.if_icmp .ge 40, 3) := by decide +kernel
theorem dX9_water_46 : decode cX9_water 46 = .ok (.iload_n 1, 1) := by decide +kernel
theorem dX9_water_47 : decode cX9_water 47 = .ok (.aload_n 0, 1) := by decide +kernel
theorem dX9_water_48 : decode cX9_water 48 = .ok (.getfield 9, 3) := by decide +kernel
theorem dX9_water_51 : decode cX9_water 51 = .ok (.bipush 12, 2) := by decide +kernel
theorem dX9_water_53 : decode cX9_water 53 = .ok (.iload_n 2, 1) := by decide +kernel
theorem dX9_water_54 : decode cX9_water 54 = .ok (.iadd, 1) := by decide +kernel
theorem dX9_water_55 : decode cX9_water 55 = .ok (.iaload, 1) := by decide +kernel
theorem dX9_water_56 : decode cX9_water 56 = .ok (.aload_n 0, 1) := by decide +kernel
theorem dX9_water_57 : decode cX9_water 57 = .ok (.getfield 9, 3) := by decide +kernel
theorem dX9_water_60 : decode cX9_water 60 = .ok (.bipush 18, 2) := by decide +kernel
theorem dX9_water_62 : decode cX9_water 62 = .ok (.iload_n 2, 1) := by decide +kernel
theorem dX9_water_63 : decode cX9_water 63 = .ok (.iadd, 1) := by decide +kernel
theorem dX9_water_64 : decode cX9_water 64 = .ok (.iaload, 1) := by decide +kernel
theorem dX9_water_65 : decode cX9_water 65 = .ok (.aload_n 0, 1) := by decide +kernel
theorem dX9_water_66 : decode cX9_water 66 = .ok (.getfield 9, 3) := by decide +kernel
theorem dX9_water_69 : decode cX9_water 69 = .ok (.iconst 0, 1) := by decide +kernel
theorem dX9_water_70 : decode cX9_water 70 = .ok (.iload_n 2, 1) := by decide +kernel
theorem dX9_water_71 : decode cX9_water 71 = .ok (.iadd, 1) := by decide +kernel
theorem dX9_water_72 : decode cX9_water 72 = .ok (.iaload, 1) := by decide +kernel
theorem dX9_water_73 : decode cX9_water 73 = .ok (.imul, 1) := by decide +kernel
theorem dX9_water_74 : decode cX9_water 74 = .ok (.iadd, 1) := by decide +kernel
theorem dX9_water_75 : decode cX9_water 75 = .ok (.iadd, 1) := by decide +kernel
theorem dX9_water_76 : decode cX9_water 76 = .ok (.istore_n 1, 1) := by decide +kernel
theorem dX9_water_77 : decode cX9_water 77 = .ok (.iinc 2 1, 3) := by decide +kernel
theorem dX9_water_80 : decode cX9_water 80 = .ok (.goto (-45), 3) := by decide +kernel
theorem dX9_water_83 : decode cX9_water 83 = .ok (.iload_n 1, 1) := by decide +kernel
theorem dX9_water_84 : decode cX9_water 84 = .ok (.ireturn, 1) := by decide +kernel
theorem dX9_levels_0 : decode cX9_levels 0 = .ok (.iload_n 1, 1) := by decide +kernel
theorem dX9_levels_1 : decode cX9_levels 1 = .ok (.iconst (-1), 1) := by decide +kernel
theorem dX9_levels_2 : decode cX9_levels 2 = .ok (.if_icmp .ge 5, 3) := by decide +kernel
theorem dX9_levels_5 : decode cX9_levels 5 = .ok (.iconst (-1), 1) := by decide +kernel
theorem dX9_levels_6 : decode cX9_levels 6 = .ok (.ireturn, 1) := by decide +kernel
theorem dX9_levels_7 : decode cX9_levels 7 = .ok (.iconst 0, 1) := by decide +kernel
theorem dX9_levels_8 : decode cX9_levels 8 = .ok (.istore_n 2, 1) := by decide +kernel
theorem dX9_levels_9 : decode cX9_levels 9 = .ok (.iconst (-1), 1) := by decide +kernel
theorem dX9_levels_10 : decode cX9_levels 10 = .ok (.istore_n 3, 1) := by decide +kernel
theorem dX9_levels_11 : decode cX9_levels 11 = .ok (.iconst 1, 1) := by decide +kernel
theorem dX9_levels_12 : decode cX9_levels 12 = .ok (.istore 4, 2) := by decide +kernel
theorem dX9_levels_14 : decode cX9_levels 14 = .ok (.iload 4, 2) := by decide +kernel
theorem dX9_levels_16 : decode cX9_levels 16 = .ok (.ifCond .eq 100, 3) := by decide +kernel
theorem dX9_levels_19 : decode cX9_levels 19 = .ok (.ldc 192, 2) := by decide +kernel
theorem dX9_levels_21 : decode cX9_levels 21 = .ok (.istore 5, 2) := by decide +kernel
theorem dX9_levels_23 : decode cX9_levels 23 = .ok (.iconst 0, 1) := by decide +kernel
theorem dX9_levels_24 : decode cX9_levels 24 = .ok (.istore 6, 2) := by decide +kernel
theorem dX9_levels_26 : decode cX9_levels 26 = .ok (.iload 6, 2) := by decide +kernel
theorem dX9_levels_28 : decode cX9_levels 28 = .ok (.aload_n 0, 1) := by decide +kernel
theorem dX9_levels_29 : decode cX9_levels 29 = .ok (.getfield 9, 3) := by decide +kernel
theorem dX9_levels_32 : decode cX9_levels 32 = .ok (.bipush 53, 2) := by decide +kernel
theorem dX9_levels_34 : decode cX9_levels 34 = .ok (.iaload, 1) := by decide +kernel
theorem dX9_levels_35 : decode cX9_levels 35 = .ok (.if_icmp .gt 40, 3) := by decide +kernel
theorem dX9_levels_38 : decode cX9_levels 38 = .ok (.aload_n 0, 1) := by decide +kernel
theorem dX9_levels_39 : decode cX9_levels 39 = .ok (.getfield 9, 3) := by decide +kernel
theorem dX9_levels_42 : decode cX9_levels 42 = .ok (.bipush 24, 2) := by decide +kernel
theorem dX9_levels_44 : decode cX9_levels 44 = .ok (.iload 6, 2) := by decide +kernel
theorem dX9_levels_46 : decode cX9_levels 46 = .ok (.iadd, 1) := by decide +kernel
theorem dX9_levels_47 : decode cX9_levels 47 = .ok (.iaload, 1) := by decide +kernel
theorem dX9_levels_48 : decode cX9_levels 48 = .ok (.iload_n 3, 1) := by decide +kernel
theorem dX9_levels_49 : decode cX9_levels 49 = .ok (.if_icmp .le 20, 3) := by decide +kernel
theorem dX9_levels_52 : decode cX9_levels 52 = .ok (.iload 5, 2) := by decide +kernel
theorem dX9_levels_54 : decode cX9_levels 54 = .ok (.aload_n 0, 1) := by decide +kernel
theorem dX9_levels_55 : decode cX9_levels 55 = .ok (.getfield 9, 3) := by decide +kernel
theorem dX9_levels_58 : decode cX9_levels 58 = .ok (.bipush 24, 2) := by decide +kernel
theorem dX9_levels_60 : decode cX9_levels 60 = .ok (.iload 6, 2) := by decide +kernel
theorem dX9_levels_62 : decode cX9_levels 62 = .ok (.iadd, 1) := by decide +kernel
theorem dX9_levels_63 : decode cX9_levels 63 = .ok (.iaload, 1) := by decide +kernel
theorem dX9_levels_64 : decode cX9_levels 64 = .ok (.invokestatic 177, 3) := by decide +kernel
theorem dX9_levels_67 : decode cX9_levels 67 = .ok (.istore 5, 2) := by decide +kernel
theorem dX9_levels_69 : decode cX9_levels 69 = .ok (.iinc 6 1, 3) := by decide +kernel
theorem dX9_levels_72 : decode cX9_levels 72 = .ok (.goto (-46), 3) := by decide +kernel
theorem dX9_levels_75 : decode cX9_levels 75 = .ok (.iload 5, 2) := by decide +kernel
theorem dX9_levels_77 : decode cX9_levels 77 = .ok (.ldc 192, 2) := by decide +kernel
theorem dX9_levels_79 : decode cX9_levels 79 = .ok (.if_icmp .ge 7, 3) := by decide +kernel
theorem dX9_levels_82 : decode cX9_levels 82 = .ok (.iconst 1, 1) := by decide +kernel
theorem dX9_levels_83 : decode cX9_levels 83 = .ok (.goto 4, 3) := by decide +kernel
theorem dX9_levels_86 : decode cX9_levels 86 = .ok (.iconst 0, 1) := by decide +kernel
theorem dX9_levels_87 : decode cX9_levels 87 = .ok (.istore 4, 2) := by decide +kernel
theorem dX9_levels_89 : decode cX9_levels 89 = .ok (.iload 4, 2) := by decide +kernel
theorem dX9_levels_91 : decode cX9_levels 91 = .ok (.ifCond .eq 11, 3) := by decide +kernel
theorem dX9_levels_94 : decode cX9_levels 94 = .ok (.iload_n 2, 1) := by decide +kernel
theorem dX9_levels_95 : decode cX9_levels 95 = .ok (.iload_n 1, 1) := by decide +kernel
theorem dX9_levels_96 : decode cX9_levels 96 = .ok (.if_icmp .ne 6, 3) := by decide +kernel
theorem dX9_levels_99 : decode cX9_levels 99 = .ok (.iload 5, 2) := by decide +kernel
theorem dX9_levels_101 : decode cX9_levels 101 = .ok (.ireturn, 1) := by decide +kernel
theorem dX9_levels_102 : decode cX9_levels 102 = .ok (.iload 5, 2) := by decide +kernel
theorem dX9_levels_104 : decode cX9_levels 104 = .ok (.istore_n 3, 1) := by decide +kernel
theorem dX9_levels_105 : decode cX9_levels 105 = .ok (.iload 4, 2) := by decide +kernel
theorem dX9_levels_107 : decode cX9_levels 107 = .ok (.ifCond .eq 6, 3) := by decide +kernel
theorem dX9_levels_110 : decode cX9_levels 110 = .ok (.iinc 2 1, 3) := by decide +kernel
theorem dX9_levels_113 : decode cX9_levels 113 = .ok (.goto (-99), 3) := by decide +kernel
theorem dX9_levels_116 : decode cX9_levels 116 = .ok (.iload_n 1, 1) := by decide +kernel
theorem dX9_levels_117 : decode cX9_levels 117 = .ok (.iconst (-1), 1) := by decide +kernel
theorem dX9_levels_118 : decode cX9_levels 118 = .ok (.if_icmp .ne 7, 3) := by decide +kernel
theorem dX9_levels_121 : decode cX9_levels 121 = .ok (.iload_n 2, 1) := by decide +kernel
theorem dX9_levels_122 : decode cX9_levels 122 = .ok (.goto 5, 3) := by decide +kernel
theorem dX9_levels_125 : decode cX9_levels 125 = .ok (.bipush (-2), 2) := by decide +kernel
theorem dX9_levels_127 : decode cX9_levels 127 = .ok (.ireturn, 1) := by decide +kernel
theorem dX9_tally_0 : decode cX9_tally 0 = .ok (.iload_n 2, 1) := by decide +kernel
theorem dX9_tally_1 : decode cX9_tally 1 = .ok (.iconst 0, 1) := by decide +kernel
theorem dX9_tally_2 : decode cX9_tally 2 = .ok (.iconst 2, 1) := by decide +kernel
theorem dX9_tally_3 : decode cX9_tally 3 = .ok (.invokestatic 46, 3) := by decide +kernel
theorem dX9_tally_6 : decode cX9_tally 6 = .ok (.ifCond .ne 6, 3) := by decide +kernel
theorem dX9_tally_9 : decode cX9_tally 9 = .ok (.ldc 157, 2) := by decide +kernel
theorem dX9_tally_11 : decode cX9_tally 11 = .ok (.ireturn, 1) := by decide +kernel
theorem dX9_tally_12 : decode cX9_tally 12 = .ok (.iconst 0, 1) := by decide +kernel
theorem dX9_tally_13 : decode cX9_tally 13 = .ok (.istore_n 3, 1) := by decide +kernel
theorem dX9_tally_14 : decode cX9_tally 14 = .ok (.iconst 0, 1) := by decide +kernel
theorem dX9_tally_15 : decode cX9_tally 15 = .ok (.istore 4, 2) := by decide +kernel
theorem dX9_tally_17 : decode cX9_tally 17 = .ok (.iconst 0, 1) := by decide +kernel
theorem dX9_tally_18 : decode cX9_tally 18 = .ok (.istore 5, 2) := by decide +kernel
theorem dX9_tally_20 : decode cX9_tally 20 = .ok (.iload 5, 2) := by decide +kernel
theorem dX9_tally_22 : decode cX9_tally 22 = .ok (.bipush 120, 2) := by decide +kernel
theorem dX9_tally_24 : decode cX9_tally 24 = .ok (.if_icmp .ge 85, 3) := by decide +kernel
theorem dX9_tally_27 : decode cX9_tally 27 = .ok (.aload_n 0, 1) := by decide +kernel
theorem dX9_tally_28 : decode cX9_tally 28 = .ok (.getfield 9, 3) := by decide +kernel
theorem dX9_tally_31 : decode cX9_tally 31 = .ok (.bipush 115, 2) := by decide +kernel
theorem dX9_tally_33 : decode cX9_tally 33 = .ok (.iload 5, 2) := by decide +kernel
theorem dX9_tally_35 : decode cX9_tally 35 = .ok (.iadd, 1) := by decide +kernel
theorem dX9_tally_36 : decode cX9_tally 36 = .ok (.iaload, 1) := by decide +kernel
theorem dX9_tally_37 : decode cX9_tally 37 = .ok (.ifCond .ne 6, 3) := by decide +kernel
theorem dX9_tally_40 : decode cX9_tally 40 = .ok (.goto 63, 3) := by decide +kernel
theorem dX9_tally_43 : decode cX9_tally 43 = .ok (.iload 5, 2) := by decide +kernel
theorem dX9_tally_45 : decode cX9_tally 45 = .ok (.bipush 9, 2) := by decide +kernel
theorem dX9_tally_47 : decode cX9_tally 47 = .ok (.isub, 1) := by decide +kernel
theorem dX9_tally_48 : decode cX9_tally 48 = .ok (.iload_n 1, 1) := by decide +kernel
theorem dX9_tally_49 : decode cX9_tally 49 = .ok (.if_icmp .gt 18, 3) := by decide +kernel
theorem dX9_tally_52 : decode cX9_tally 52 = .ok (.iload 4, 2) := by decide +kernel
theorem dX9_tally_54 : decode cX9_tally 54 = .ok (.aload_n 0, 1) := by decide +kernel
theorem dX9_tally_55 : decode cX9_tally 55 = .ok (.getfield 9, 3) := by decide +kernel
theorem dX9_tally_58 : decode cX9_tally 58 = .ok (.bipush 115, 2) := by decide +kernel
theorem dX9_tally_60 : decode cX9_tally 60 = .ok (.iload 5, 2) := by decide +kernel
theorem dX9_tally_62 : decode cX9_tally 62 = .ok (.iadd, 1) := by decide +kernel
theorem dX9_tally_63 : decode cX9_tally 63 = .ok (.iaload, 1) := by decide +kernel
theorem dX9_tally_64 : decode cX9_tally 64 = .ok (.iadd, 1) := by decide +kernel
theorem dX9_tally_65 : decode cX9_tally 65 = .ok (.istore 4, 2) := by decide +kernel
theorem dX9_tally_67 : decode cX9_tally 67 = .ok (.iload_n 2, 1) := by decide +kernel
theorem dX9_tally_68 : decode cX9_tally 68 = .ok (.iconst 2, 1) := by decide +kernel
theorem dX9_tally_69 : decode cX9_tally 69 = .ok (.if_icmp .ge 31, 3) := by decide +kernel
theorem dX9_tally_72 : decode cX9_tally 72 = .ok (.iload_n 3, 1) := by decide +kernel
theorem dX9_tally_73 : decode cX9_tally 73 = .ok (.iload_n 1, 1) := by decide +kernel
theorem dX9_tally_74 : decode cX9_tally 74 = .ok (.if_icmp .ne 26, 3) := by decide +kernel
theorem dX9_tally_77 : decode cX9_tally 77 = .ok (.iload_n 2, 1) := by decide +kernel
theorem dX9_tally_78 : decode cX9_tally 78 = .ok (.ifCond .ne 11, 3) := by decide +kernel
theorem dX9_tally_81 : decode cX9_tally 81 = .ok (.iload 5, 2) := by decide +kernel
theorem dX9_tally_83 : decode cX9_tally 83 = .ok (.bipush 9, 2) := by decide +kernel
theorem dX9_tally_85 : decode cX9_tally 85 = .ok (.isub, 1) := by decide +kernel
theorem dX9_tally_86 : decode cX9_tally 86 = .ok (.goto 13, 3) := by decide +kernel
theorem dX9_tally_89 : decode cX9_tally 89 = .ok (.aload_n 0, 1) := by decide +kernel
theorem dX9_tally_90 : decode cX9_tally 90 = .ok (.getfield 9, 3) := by decide +kernel
theorem dX9_tally_93 : decode cX9_tally 93 = .ok (.bipush 115, 2) := by decide +kernel
theorem dX9_tally_95 : decode cX9_tally 95 = .ok (.iload 5, 2) := by decide +kernel
theorem dX9_tally_97 : decode cX9_tally 97 = .ok (.iadd, 1) := by decide +kernel
theorem dX9_tally_98 : decode cX9_tally 98 = .ok (.iaload, 1) := by decide +kernel
theorem dX9_tally_99 : decode cX9_tally 99 = .ok (.ireturn, 1) := by decide +kernel
theorem dX9_tally_100 : decode cX9_tally 100 = .ok (.iinc 3 1, 3) := by decide +kernel
theorem dX9_tally_103 : decode cX9_tally 103 = .ok (.iinc 5 1, 3) := by decide +kernel
theorem dX9_tally_106 : decode cX9_tally 106 = .ok (.goto (-86), 3) := by decide +kernel
theorem dX9_tally_109 : decode cX9_tally 109 = .ok (.iload_n 2, 1) := by decide +kernel
theorem dX9_tally_110 : decode cX9_tally 110 = .ok (.iconst 2, 1) := by decide +kernel
theorem dX9_tally_111 : decode cX9_tally 111 = .ok (.if_icmp .ne 8, 3) := by decide +kernel
theorem dX9_tally_114 : decode cX9_tally 114 = .ok (.iload 4, 2) := by decide +kernel
theorem dX9_tally_116 : decode cX9_tally 116 = .ok (.goto 14, 3) := by decide +kernel
theorem dX9_tally_119 : decode cX9_tally 119 = .ok (.iload_n 1, 1) := by decide +kernel
theorem dX9_tally_120 : decode cX9_tally 120 = .ok (.iconst (-1), 1) := by decide +kernel
theorem dX9_tally_121 : decode cX9_tally 121 = .ok (.if_icmp .ne 7, 3) := by decide +kernel
theorem dX9_tally_124 : decode cX9_tally 124 = .ok (.iload_n 3, 1) := by decide +kernel
theorem dX9_tally_125 : decode cX9_tally 125 = .ok (.goto 5, 3) := by decide +kernel
theorem dX9_tally_128 : decode cX9_tally 128 = .ok (.ldc 158, 2) := by decide +kernel
theorem dX9_tally_130 : decode cX9_tally 130 = .ok (.ireturn, 1) := by decide +kernel
theorem dX9_isBeyond_0 : decode cX9_isBeyond 0 = .ok (.lload_n 0, 1) := by decide +kernel
theorem dX9_isBeyond_1 : decode cX9_isBeyond 1 = .ok (.lconst 0, 1) := by decide +kernel
theorem dX9_isBeyond_2 : decode cX9_isBeyond 2 = .ok (.lcmp, 1) := by decide +kernel
theorem dX9_isBeyond_3 : decode cX9_isBeyond 3 = .ok (.ifCond .eq 9, 3) := by decide +kernel
theorem dX9_isBeyond_6 : decode cX9_isBeyond 6 = .ok (.lload_n 2, 1) := by decide +kernel
theorem dX9_isBeyond_7 : decode cX9_isBeyond 7 = .ok (.lconst 0, 1) := by decide +kernel
theorem dX9_isBeyond_8 : decode cX9_isBeyond 8 = .ok (.lcmp, 1) := by decide +kernel
theorem dX9_isBeyond_9 : decode cX9_isBeyond 9 = .ok (.ifCond .ne 5, 3) := by decide +kernel
theorem dX9_isBeyond_12 : decode cX9_isBeyond 12 = .ok (.iconst 0, 1) := by decide +kernel
theorem dX9_isBeyond_13 : decode cX9_isBeyond 13 = .ok (.ireturn, 1) := by decide +kernel
theorem dX9_isBeyond_14 : decode cX9_isBeyond 14 = .ok (.lload_n 0, 1) := by decide +kernel
theorem dX9_isBeyond_15 : decode cX9_isBeyond 15 = .ok (.lload_n 2, 1) := by decide +kernel
theorem dX9_isBeyond_16 : decode cX9_isBeyond 16 = .ok (.lmul, 1) := by decide +kernel
theorem dX9_isBeyond_17 : decode cX9_isBeyond 17 = .ok (.lstore 4, 2) := by decide +kernel
theorem dX9_isBeyond_19 : decode cX9_isBeyond 19 = .ok (.lload_n 0, 1) := by decide +kernel
theorem dX9_isBeyond_20 : decode cX9_isBeyond 20 = .ok (.ldc2_w 229, 3) := by decide +kernel
theorem dX9_isBeyond_23 : decode cX9_isBeyond 23 = .ok (.lcmp, 1) := by decide +kernel
theorem dX9_isBeyond_24 : decode cX9_isBeyond 24 = .ok (.ifCond .ne 11, 3) := by decide +kernel
theorem dX9_isBeyond_27 : decode cX9_isBeyond 27 = .ok (.lload_n 2, 1) := by decide +kernel
theorem dX9_isBeyond_28 : decode cX9_isBeyond 28 = .ok (.ldc2_w 231, 3) := by decide +kernel
theorem dX9_isBeyond_31 : decode cX9_isBeyond 31 = .ok (.lcmp, 1) := by decide +kernel
theorem dX9_isBeyond_32 : decode cX9_isBeyond 32 = .ok (.ifCond .eq 28, 3) := by decide +kernel
theorem dX9_isBeyond_35 : decode cX9_isBeyond 35 = .ok (.lload_n 2, 1) := by decide +kernel
theorem dX9_isBeyond_36 : decode cX9_isBeyond 36 = .ok (.ldc2_w 229, 3) := by decide +kernel
theorem dX9_isBeyond_39 : decode cX9_isBeyond 39 = .ok (.lcmp, 1) := by decide +kernel
theorem dX9_isBeyond_40 : decode cX9_isBeyond 40 = .ok (.ifCond .ne 11, 3) := by decide +kernel
theorem dX9_isBeyond_43 : decode cX9_isBeyond 43 = .ok (.lload_n 0, 1) := by decide +kernel
theorem dX9_isBeyond_44 : decode cX9_isBeyond 44 = .ok (.ldc2_w 231, 3) := by decide +kernel
theorem dX9_isBeyond_47 : decode cX9_isBeyond 47 = .ok (.lcmp, 1) := by decide +kernel
theorem dX9_isBeyond_48 : decode cX9_isBeyond 48 = .ok (.ifCond .eq 12, 3) := by decide +kernel
theorem dX9_isBeyond_51 : decode cX9_isBeyond 51 = .ok (.lload 4, 2) := by decide +kernel
theorem dX9_isBeyond_53 : decode cX9_isBeyond 53 = .ok (.lload_n 0, 1) := by decide +kernel
theorem dX9_isBeyond_54 : decode cX9_isBeyond 54 = .ok (.ldiv, 1) := by decide +kernel
theorem dX9_isBeyond_55 : decode cX9_isBeyond 55 = .ok (.lload_n 2, 1) := by decide +kernel
theorem dX9_isBeyond_56 : decode cX9_isBeyond 56 = .ok (.lcmp, 1) := by decide +kernel
theorem dX9_isBeyond_57 : decode cX9_isBeyond 57 = .ok (.ifCond .eq 7, 3) := by decide +kernel
theorem dX9_isBeyond_60 : decode cX9_isBeyond 60 = .ok (.iconst 1, 1) := by decide +kernel
theorem dX9_isBeyond_61 : decode cX9_isBeyond 61 = .ok (.goto 4, 3) := by decide +kernel
theorem dX9_isBeyond_64 : decode cX9_isBeyond 64 = .ok (.iconst 0, 1) := by decide +kernel
theorem dX9_isBeyond_65 : decode cX9_isBeyond 65 = .ok (.ireturn, 1) := by decide +kernel
theorem dX9_pays_0 : decode cX9_pays 0 = .ok (.lload_n 1, 1) := by decide +kernel
theorem dX9_pays_1 : decode cX9_pays 1 = .ok (.lload_n 3, 1) := by decide +kernel
theorem dX9_pays_2 : decode cX9_pays 2 = .ok (.invokestatic 233, 3) := by decide +kernel
theorem dX9_pays_5 : decode cX9_pays 5 = .ok (.ifCond .eq 6, 3) := by decide +kernel
theorem dX9_pays_8 : decode cX9_pays 8 = .ok (.bipush (-7), 2) := by decide +kernel
theorem dX9_pays_10 : decode cX9_pays 10 = .ok (.ireturn, 1) := by decide +kernel
theorem dX9_pays_11 : decode cX9_pays 11 = .ok (.lload_n 1, 1) := by decide +kernel
theorem dX9_pays_12 : decode cX9_pays 12 = .ok (.lload_n 3, 1) := by decide +kernel
theorem dX9_pays_13 : decode cX9_pays 13 = .ok (.lmul, 1) := by decide +kernel
theorem dX9_pays_14 : decode cX9_pays 14 = .ok (.lstore 5, 2) := by decide +kernel
theorem dX9_pays_16 : decode cX9_pays 16 = .ok (.aload_n 0, 1) := by decide +kernel
theorem dX9_pays_17 : decode cX9_pays 17 = .ok (.getfield 237, 3) := by decide +kernel
theorem dX9_pays_20 : decode cX9_pays 20 = .ok (.lload 5, 2) := by decide +kernel
theorem dX9_pays_22 : decode cX9_pays 22 = .ok (.ladd, 1) := by decide +kernel
theorem dX9_pays_23 : decode cX9_pays 23 = .ok (.lstore 7, 2) := by decide +kernel
theorem dX9_pays_25 : decode cX9_pays 25 = .ok (.aload_n 0, 1) := by decide +kernel
theorem dX9_pays_26 : decode cX9_pays 26 = .ok (.getfield 237, 3) := by decide +kernel
theorem dX9_pays_29 : decode cX9_pays 29 = .ok (.lconst 0, 1) := by decide +kernel
theorem dX9_pays_30 : decode cX9_pays 30 = .ok (.lcmp, 1) := by decide +kernel
theorem dX9_pays_31 : decode cX9_pays 31 = .ok (.ifCond .ge 7, 3) := by decide +kernel
theorem dX9_pays_34 : decode cX9_pays 34 = .ok (.iconst 1, 1) := by decide +kernel
theorem dX9_pays_35 : decode cX9_pays 35 = .ok (.goto 4, 3) := by decide +kernel
theorem dX9_pays_38 : decode cX9_pays 38 = .ok (.iconst 0, 1) := by decide +kernel
theorem dX9_pays_39 : decode cX9_pays 39 = .ok (.lload 5, 2) := by decide +kernel
theorem dX9_pays_41 : decode cX9_pays 41 = .ok (.lconst 0, 1) := by decide +kernel
theorem dX9_pays_42 : decode cX9_pays 42 = .ok (.lcmp, 1) := by decide +kernel
theorem dX9_pays_43 : decode cX9_pays 43 = .ok (.ifCond .ge 7, 3) := by decide +kernel
theorem dX9_pays_46 : decode cX9_pays 46 = .ok (.iconst 1, 1) := by decide +kernel
theorem dX9_pays_47 : decode cX9_pays 47 = .ok (.goto 4, 3) := by decide +kernel
theorem dX9_pays_50 : decode cX9_pays 50 = .ok (.iconst 0, 1) := by decide +kernel
theorem dX9_pays_51 : decode cX9_pays 51 = .ok (.if_icmp .ne 35, 3) := by decide +kernel
theorem dX9_pays_54 : decode cX9_pays 54 = .ok (.lload 7, 2) := by decide +kernel
theorem dX9_pays_56 : decode cX9_pays 56 = .ok (.lconst 0, 1) := by decide +kernel
theorem dX9_pays_57 : decode cX9_pays 57 = .ok (.lcmp, 1) := by decide +kernel
theorem dX9_pays_58 : decode cX9_pays 58 = .ok (.ifCond .ge 7, 3) := by decide +kernel
theorem dX9_pays_61 : decode cX9_pays 61 = .ok (.iconst 1, 1) := by decide +kernel
theorem dX9_pays_62 : decode cX9_pays 62 = .ok (.goto 4, 3) := by decide +kernel
theorem dX9_pays_65 : decode cX9_pays 65 = .ok (.iconst 0, 1) := by decide +kernel
theorem dX9_pays_66 : decode cX9_pays 66 = .ok (.aload_n 0, 1) := by decide +kernel
theorem dX9_pays_67 : decode cX9_pays 67 = .ok (.getfield 237, 3) := by decide +kernel
theorem dX9_pays_70 : decode cX9_pays 70 = .ok (.lconst 0, 1) := by decide +kernel
theorem dX9_pays_71 : decode cX9_pays 71 = .ok (.lcmp, 1) := by decide +kernel
theorem dX9_pays_72 : decode cX9_pays 72 = .ok (.ifCond .ge 7, 3) := by decide +kernel
theorem dX9_pays_75 : decode cX9_pays 75 = .ok (.iconst 1, 1) := by decide +kernel
theorem dX9_pays_76 : decode cX9_pays 76 = .ok (.goto 4, 3) := by decide +kernel
theorem dX9_pays_79 : decode cX9_pays 79 = .ok (.iconst 0, 1) := by decide +kernel
theorem dX9_pays_80 : decode cX9_pays 80 = .ok (.if_icmp .eq 6, 3) := by decide +kernel
theorem dX9_pays_83 : decode cX9_pays 83 = .ok (.bipush (-7), 2) := by decide +kernel
theorem dX9_pays_85 : decode cX9_pays 85 = .ok (.ireturn, 1) := by decide +kernel
theorem dX9_pays_86 : decode cX9_pays 86 = .ok (.aload_n 0, 1) := by decide +kernel
theorem dX9_pays_87 : decode cX9_pays 87 = .ok (.lload 7, 2) := by decide +kernel
theorem dX9_pays_89 : decode cX9_pays 89 = .ok (.putfield 237, 3) := by decide +kernel
theorem dX9_pays_92 : decode cX9_pays 92 = .ok (.iconst 1, 1) := by decide +kernel
theorem dX9_pays_93 : decode cX9_pays 93 = .ok (.ireturn, 1) := by decide +kernel
theorem dX9_account_0 : decode cX9_account 0 = .ok (.aload_n 0, 1) := by decide +kernel
theorem dX9_account_1 : decode cX9_account 1 = .ok (.getfield 237, 3) := by decide +kernel
theorem dX9_account_4 : decode cX9_account 4 = .ok (.lreturn, 1) := by decide +kernel
theorem dX9_image_0 : decode cX9_image 0 = .ok (.aload_n 0, 1) := by decide +kernel
theorem dX9_image_1 : decode cX9_image 1 = .ok (.iconst 1, 1) := by decide +kernel
theorem dX9_image_2 : decode cX9_image 2 = .ok (.putfield 241, 3) := by decide +kernel
theorem dX9_image_5 : decode cX9_image 5 = .ok (.aload_n 0, 1) := by decide +kernel
theorem dX9_image_6 : decode cX9_image 6 = .ok (.getfield 9, 3) := by decide +kernel
theorem dX9_image_9 : decode cX9_image 9 = .ok (.aload_n 0, 1) := by decide +kernel
theorem dX9_image_10 : decode cX9_image 10 = .ok (.getfield 15, 3) := by decide +kernel
theorem dX9_image_13 : decode cX9_image 13 = .ok (.invokestatic 105, 3) := by decide +kernel
theorem dX9_image_16 : decode cX9_image 16 = .ok (.aload_n 0, 1) := by decide +kernel
theorem dX9_image_17 : decode cX9_image 17 = .ok (.aload_n 0, 1) := by decide +kernel
theorem dX9_image_18 : decode cX9_image 18 = .ok (.getfield 237, 3) := by decide +kernel
theorem dX9_image_21 : decode cX9_image 21 = .ok (.putfield 244, 3) := by decide +kernel
theorem dX9_image_24 : decode cX9_image 24 = .ok (.aload_n 0, 1) := by decide +kernel
theorem dX9_image_25 : decode cX9_image 25 = .ok (.getfield 9, 3) := by decide +kernel
theorem dX9_image_28 : decode cX9_image 28 = .ok (.bipush 114, 2) := by decide +kernel
theorem dX9_image_30 : decode cX9_image 30 = .ok (.iaload, 1) := by decide +kernel
theorem dX9_image_31 : decode cX9_image 31 = .ok (.ireturn, 1) := by decide +kernel
theorem dX9_undo_0 : decode cX9_undo 0 = .ok (.aload_n 0, 1) := by decide +kernel
theorem dX9_undo_1 : decode cX9_undo 1 = .ok (.getfield 241, 3) := by decide +kernel
theorem dX9_undo_4 : decode cX9_undo 4 = .ok (.ifCond .ne 6, 3) := by decide +kernel
theorem dX9_undo_7 : decode cX9_undo 7 = .ok (.bipush (-5), 2) := by decide +kernel
theorem dX9_undo_9 : decode cX9_undo 9 = .ok (.ireturn, 1) := by decide +kernel
theorem dX9_undo_10 : decode cX9_undo 10 = .ok (.aload_n 0, 1) := by decide +kernel
theorem dX9_undo_11 : decode cX9_undo 11 = .ok (.getfield 15, 3) := by decide +kernel
theorem dX9_undo_14 : decode cX9_undo 14 = .ok (.aload_n 0, 1) := by decide +kernel
theorem dX9_undo_15 : decode cX9_undo 15 = .ok (.getfield 9, 3) := by decide +kernel
theorem dX9_undo_18 : decode cX9_undo 18 = .ok (.invokestatic 105, 3) := by decide +kernel
theorem dX9_undo_21 : decode cX9_undo 21 = .ok (.aload_n 0, 1) := by decide +kernel
theorem dX9_undo_22 : decode cX9_undo 22 = .ok (.aload_n 0, 1) := by decide +kernel
theorem dX9_undo_23 : decode cX9_undo 23 = .ok (.getfield 244, 3) := by decide +kernel
theorem dX9_undo_26 : decode cX9_undo 26 = .ok (.putfield 237, 3) := by decide +kernel
theorem dX9_undo_29 : decode cX9_undo 29 = .ok (.aload_n 0, 1) := by decide +kernel
theorem dX9_undo_30 : decode cX9_undo 30 = .ok (.getfield 9, 3) := by decide +kernel
theorem dX9_undo_33 : decode cX9_undo 33 = .ok (.bipush 114, 2) := by decide +kernel
theorem dX9_undo_35 : decode cX9_undo 35 = .ok (.iaload, 1) := by decide +kernel
theorem dX9_undo_36 : decode cX9_undo 36 = .ok (.ireturn, 1) := by decide +kernel
theorem dX9_count_0 : decode cX9_count 0 = .ok (.iconst 0, 1) := by decide +kernel
theorem dX9_count_1 : decode cX9_count 1 = .ok (.istore_n 2, 1) := by decide +kernel
theorem dX9_count_2 : decode cX9_count 2 = .ok (.iload_n 1, 1) := by decide +kernel
theorem dX9_count_3 : decode cX9_count 3 = .ok (.tableswitch 127 0 5 #[37, 45, 53, 58, 86, 94], 37) := by decide +kernel
theorem dX9_count_40 : decode cX9_count 40 = .ok (.aload_n 0, 1) := by decide +kernel
theorem dX9_count_41 : decode cX9_count 41 = .ok (.getfield 9, 3) := by decide +kernel
theorem dX9_count_44 : decode cX9_count 44 = .ok (.bipush 53, 2) := by decide +kernel
theorem dX9_count_46 : decode cX9_count 46 = .ok (.iaload, 1) := by decide +kernel
theorem dX9_count_47 : decode cX9_count 47 = .ok (.ireturn, 1) := by decide +kernel
theorem dX9_count_48 : decode cX9_count 48 = .ok (.aload_n 0, 1) := by decide +kernel
theorem dX9_count_49 : decode cX9_count 49 = .ok (.getfield 9, 3) := by decide +kernel
theorem dX9_count_52 : decode cX9_count 52 = .ok (.bipush 114, 2) := by decide +kernel
theorem dX9_count_54 : decode cX9_count 54 = .ok (.iaload, 1) := by decide +kernel
theorem dX9_count_55 : decode cX9_count 55 = .ok (.ireturn, 1) := by decide +kernel
theorem dX9_count_56 : decode cX9_count 56 = .ok (.aload_n 0, 1) := by decide +kernel
theorem dX9_count_57 : decode cX9_count 57 = .ok (.getfield 65, 3) := by decide +kernel
theorem dX9_count_60 : decode cX9_count 60 = .ok (.ireturn, 1) := by decide +kernel
theorem dX9_count_61 : decode cX9_count 61 = .ok (.iconst 0, 1) := by decide +kernel
theorem dX9_count_62 : decode cX9_count 62 = .ok (.istore_n 3, 1) := by decide +kernel
theorem dX9_count_63 : decode cX9_count 63 = .ok (.iload_n 3, 1) := by decide +kernel
theorem dX9_count_64 : decode cX9_count 64 = .ok (.bipush 120, 2) := by decide +kernel
theorem dX9_count_66 : decode cX9_count 66 = .ok (.if_icmp .ge 21, 3) := by decide +kernel
theorem dX9_count_69 : decode cX9_count 69 = .ok (.iload_n 2, 1) := by decide +kernel
theorem dX9_count_70 : decode cX9_count 70 = .ok (.aload_n 0, 1) := by decide +kernel
theorem dX9_count_71 : decode cX9_count 71 = .ok (.getfield 9, 3) := by decide +kernel
theorem dX9_count_74 : decode cX9_count 74 = .ok (.bipush 115, 2) := by decide +kernel
theorem dX9_count_76 : decode cX9_count 76 = .ok (.iload_n 3, 1) := by decide +kernel
theorem dX9_count_77 : decode cX9_count 77 = .ok (.iadd, 1) := by decide +kernel
theorem dX9_count_78 : decode cX9_count 78 = .ok (.iaload, 1) := by decide +kernel
theorem dX9_count_79 : decode cX9_count 79 = .ok (.iadd, 1) := by decide +kernel
theorem dX9_count_80 : decode cX9_count 80 = .ok (.istore_n 2, 1) := by decide +kernel
theorem dX9_count_81 : decode cX9_count 81 = .ok (.iinc 3 1, 3) := by decide +kernel
theorem dX9_count_84 : decode cX9_count 84 = .ok (.goto (-21), 3) := by decide +kernel
theorem dX9_count_87 : decode cX9_count 87 = .ok (.iload_n 2, 1) := by decide +kernel
theorem dX9_count_88 : decode cX9_count 88 = .ok (.ireturn, 1) := by decide +kernel
theorem dX9_count_89 : decode cX9_count 89 = .ok (.aload_n 0, 1) := by decide +kernel
theorem dX9_count_90 : decode cX9_count 90 = .ok (.getfield 9, 3) := by decide +kernel
theorem dX9_count_93 : decode cX9_count 93 = .ok (.bipush 52, 2) := by decide +kernel
theorem dX9_count_95 : decode cX9_count 95 = .ok (.iaload, 1) := by decide +kernel
theorem dX9_count_96 : decode cX9_count 96 = .ok (.ireturn, 1) := by decide +kernel
theorem dX9_count_97 : decode cX9_count 97 = .ok (.iconst 0, 1) := by decide +kernel
theorem dX9_count_98 : decode cX9_count 98 = .ok (.istore_n 3, 1) := by decide +kernel
theorem dX9_count_99 : decode cX9_count 99 = .ok (.iload_n 3, 1) := by decide +kernel
theorem dX9_count_100 : decode cX9_count 100 = .ok (.aload_n 0, 1) := by decide +kernel
theorem dX9_count_101 : decode cX9_count 101 = .ok (.getfield 9, 3) := by decide +kernel
theorem dX9_count_104 : decode cX9_count 104 = .ok (.bipush 53, 2) := by decide +kernel
theorem dX9_count_106 : decode cX9_count 106 = .ok (.iaload, 1) := by decide +kernel
theorem dX9_count_107 : decode cX9_count 107 = .ok (.if_icmp .ge 21, 3) := by decide +kernel
theorem dX9_count_110 : decode cX9_count 110 = .ok (.iload_n 2, 1) := by decide +kernel
theorem dX9_count_111 : decode cX9_count 111 = .ok (.aload_n 0, 1) := by decide +kernel
theorem dX9_count_112 : decode cX9_count 112 = .ok (.getfield 9, 3) := by decide +kernel
theorem dX9_count_115 : decode cX9_count 115 = .ok (.bipush 18, 2) := by decide +kernel
theorem dX9_count_117 : decode cX9_count 117 = .ok (.iload_n 3, 1) := by decide +kernel
theorem dX9_count_118 : decode cX9_count 118 = .ok (.iadd, 1) := by decide +kernel
theorem dX9_count_119 : decode cX9_count 119 = .ok (.iaload, 1) := by decide +kernel
theorem dX9_count_120 : decode cX9_count 120 = .ok (.iadd, 1) := by decide +kernel
theorem dX9_count_121 : decode cX9_count 121 = .ok (.istore_n 2, 1) := by decide +kernel
theorem dX9_count_122 : decode cX9_count 122 = .ok (.iinc 3 1, 3) := by decide +kernel
theorem dX9_count_125 : decode cX9_count 125 = .ok (.goto (-26), 3) := by decide +kernel
theorem dX9_count_128 : decode cX9_count 128 = .ok (.iload_n 2, 1) := by decide +kernel
theorem dX9_count_129 : decode cX9_count 129 = .ok (.ireturn, 1) := by decide +kernel
theorem dX9_count_130 : decode cX9_count 130 = .ok (.iconst (-1), 1) := by decide +kernel
theorem dX9_count_131 : decode cX9_count 131 = .ok (.ireturn, 1) := by decide +kernel
theorem dJ6_bitCount_0f7a4_0 : decode cJ6_bitCount_0f7a4 0 = .ok (.iload_n 0, 1) := by decide +kernel
theorem dJ6_bitCount_0f7a4_1 : decode cJ6_bitCount_0f7a4 1 = .ok (.iload_n 0, 1) := by decide +kernel
theorem dJ6_bitCount_0f7a4_2 : decode cJ6_bitCount_0f7a4 2 = .ok (.iconst 1, 1) := by decide +kernel
theorem dJ6_bitCount_0f7a4_3 : decode cJ6_bitCount_0f7a4 3 = .ok (.iushr, 1) := by decide +kernel
theorem dJ6_bitCount_0f7a4_4 : decode cJ6_bitCount_0f7a4 4 = .ok (.ldc_w 265, 3) := by decide +kernel
theorem dJ6_bitCount_0f7a4_7 : decode cJ6_bitCount_0f7a4 7 = .ok (.iand, 1) := by decide +kernel
theorem dJ6_bitCount_0f7a4_8 : decode cJ6_bitCount_0f7a4 8 = .ok (.isub, 1) := by decide +kernel
theorem dJ6_bitCount_0f7a4_9 : decode cJ6_bitCount_0f7a4 9 = .ok (.istore_n 0, 1) := by decide +kernel
theorem dJ6_bitCount_0f7a4_10 : decode cJ6_bitCount_0f7a4 10 = .ok (.iload_n 0, 1) := by decide +kernel
theorem dJ6_bitCount_0f7a4_11 : decode cJ6_bitCount_0f7a4 11 = .ok (.ldc_w 266, 3) := by decide +kernel
theorem dJ6_bitCount_0f7a4_14 : decode cJ6_bitCount_0f7a4 14 = .ok (.iand, 1) := by decide +kernel
theorem dJ6_bitCount_0f7a4_15 : decode cJ6_bitCount_0f7a4 15 = .ok (.iload_n 0, 1) := by decide +kernel
theorem dJ6_bitCount_0f7a4_16 : decode cJ6_bitCount_0f7a4 16 = .ok (.iconst 2, 1) := by decide +kernel
theorem dJ6_bitCount_0f7a4_17 : decode cJ6_bitCount_0f7a4 17 = .ok (.iushr, 1) := by decide +kernel
theorem dJ6_bitCount_0f7a4_18 : decode cJ6_bitCount_0f7a4 18 = .ok (.ldc_w 266, 3) := by decide +kernel
theorem dJ6_bitCount_0f7a4_21 : decode cJ6_bitCount_0f7a4 21 = .ok (.iand, 1) := by decide +kernel
theorem dJ6_bitCount_0f7a4_22 : decode cJ6_bitCount_0f7a4 22 = .ok (.iadd, 1) := by decide +kernel
theorem dJ6_bitCount_0f7a4_23 : decode cJ6_bitCount_0f7a4 23 = .ok (.istore_n 0, 1) := by decide +kernel
theorem dJ6_bitCount_0f7a4_24 : decode cJ6_bitCount_0f7a4 24 = .ok (.iload_n 0, 1) := by decide +kernel
theorem dJ6_bitCount_0f7a4_25 : decode cJ6_bitCount_0f7a4 25 = .ok (.iload_n 0, 1) := by decide +kernel
theorem dJ6_bitCount_0f7a4_26 : decode cJ6_bitCount_0f7a4 26 = .ok (.iconst 4, 1) := by decide +kernel
theorem dJ6_bitCount_0f7a4_27 : decode cJ6_bitCount_0f7a4 27 = .ok (.iushr, 1) := by decide +kernel
theorem dJ6_bitCount_0f7a4_28 : decode cJ6_bitCount_0f7a4 28 = .ok (.iadd, 1) := by decide +kernel
theorem dJ6_bitCount_0f7a4_29 : decode cJ6_bitCount_0f7a4 29 = .ok (.ldc_w 267, 3) := by decide +kernel
theorem dJ6_bitCount_0f7a4_32 : decode cJ6_bitCount_0f7a4 32 = .ok (.iand, 1) := by decide +kernel
theorem dJ6_bitCount_0f7a4_33 : decode cJ6_bitCount_0f7a4 33 = .ok (.istore_n 0, 1) := by decide +kernel
theorem dJ6_bitCount_0f7a4_34 : decode cJ6_bitCount_0f7a4 34 = .ok (.iload_n 0, 1) := by decide +kernel
theorem dJ6_bitCount_0f7a4_35 : decode cJ6_bitCount_0f7a4 35 = .ok (.iload_n 0, 1) := by decide +kernel
theorem dJ6_bitCount_0f7a4_36 : decode cJ6_bitCount_0f7a4 36 = .ok (.bipush 8, 2) := by decide +kernel
theorem dJ6_bitCount_0f7a4_38 : decode cJ6_bitCount_0f7a4 38 = .ok (.iushr, 1) := by decide +kernel
theorem dJ6_bitCount_0f7a4_39 : decode cJ6_bitCount_0f7a4 39 = .ok (.iadd, 1) := by decide +kernel
theorem dJ6_bitCount_0f7a4_40 : decode cJ6_bitCount_0f7a4 40 = .ok (.istore_n 0, 1) := by decide +kernel
theorem dJ6_bitCount_0f7a4_41 : decode cJ6_bitCount_0f7a4 41 = .ok (.iload_n 0, 1) := by decide +kernel
theorem dJ6_bitCount_0f7a4_42 : decode cJ6_bitCount_0f7a4 42 = .ok (.iload_n 0, 1) := by decide +kernel
theorem dJ6_bitCount_0f7a4_43 : decode cJ6_bitCount_0f7a4 43 = .ok (.bipush 16, 2) := by decide +kernel
theorem dJ6_bitCount_0f7a4_45 : decode cJ6_bitCount_0f7a4 45 = .ok (.iushr, 1) := by decide +kernel
theorem dJ6_bitCount_0f7a4_46 : decode cJ6_bitCount_0f7a4 46 = .ok (.iadd, 1) := by decide +kernel
theorem dJ6_bitCount_0f7a4_47 : decode cJ6_bitCount_0f7a4 47 = .ok (.istore_n 0, 1) := by decide +kernel
theorem dJ6_bitCount_0f7a4_48 : decode cJ6_bitCount_0f7a4 48 = .ok (.iload_n 0, 1) := by decide +kernel
theorem dJ6_bitCount_0f7a4_49 : decode cJ6_bitCount_0f7a4 49 = .ok (.bipush 63, 2) := by decide +kernel
theorem dJ6_bitCount_0f7a4_51 : decode cJ6_bitCount_0f7a4 51 = .ok (.iand, 1) := by decide +kernel
theorem dJ6_bitCount_0f7a4_52 : decode cJ6_bitCount_0f7a4 52 = .ok (.ireturn, 1) := by decide +kernel
theorem dJ9_max_7cf53_0 : decode cJ9_max_7cf53 0 = .ok (.iload_n 0, 1) := by decide +kernel
theorem dJ9_max_7cf53_1 : decode cJ9_max_7cf53 1 = .ok (.iload_n 1, 1) := by decide +kernel
theorem dJ9_max_7cf53_2 : decode cJ9_max_7cf53 2 = .ok (.if_icmp .lt 7, 3) := by decide +kernel
theorem dJ9_max_7cf53_5 : decode cJ9_max_7cf53 5 = .ok (.iload_n 0, 1) := by decide +kernel
theorem dJ9_max_7cf53_6 : decode cJ9_max_7cf53 6 = .ok (.goto 4, 3) := by decide +kernel
theorem dJ9_max_7cf53_9 : decode cJ9_max_7cf53 9 = .ok (.iload_n 1, 1) := by decide +kernel
theorem dJ9_max_7cf53_10 : decode cJ9_max_7cf53 10 = .ok (.ireturn, 1) := by decide +kernel
theorem dJ9_min_7cf53_0 : decode cJ9_min_7cf53 0 = .ok (.iload_n 0, 1) := by decide +kernel
theorem dJ9_min_7cf53_1 : decode cJ9_min_7cf53 1 = .ok (.iload_n 1, 1) := by decide +kernel
theorem dJ9_min_7cf53_2 : decode cJ9_min_7cf53 2 = .ok (.if_icmp .gt 7, 3) := by decide +kernel
theorem dJ9_min_7cf53_5 : decode cJ9_min_7cf53 5 = .ok (.iload_n 0, 1) := by decide +kernel
theorem dJ9_min_7cf53_6 : decode cJ9_min_7cf53 6 = .ok (.goto 4, 3) := by decide +kernel
theorem dJ9_min_7cf53_9 : decode cJ9_min_7cf53 9 = .ok (.iload_n 1, 1) := by decide +kernel
theorem dJ9_min_7cf53_10 : decode cJ9_min_7cf53 10 = .ok (.ireturn, 1) := by decide +kernel
end
section
theorem dL_law_0 : decode cL_law 0 = .ok (.new 7, 3) := by decide +kernel
theorem dL_law_3 : decode cL_law 3 = .ok (.dup, 1) := by decide +kernel
theorem dL_law_4 : decode cL_law 4 = .ok (.invokespecial 9, 3) := by decide +kernel
theorem dL_law_7 : decode cL_law 7 = .ok (.astore_n 1, 1) := by decide +kernel
theorem dL_law_8 : decode cL_law 8 = .ok (.new 10, 3) := by decide +kernel
theorem dL_law_11 : decode cL_law 11 = .ok (.dup, 1) := by decide +kernel
theorem dL_law_12 : decode cL_law 12 = .ok (.invokespecial 12, 3) := by decide +kernel
theorem dL_law_15 : decode cL_law 15 = .ok (.astore_n 2, 1) := by decide +kernel
theorem dL_law_16 : decode cL_law 16 = .ok (.iconst 0, 1) := by decide +kernel
theorem dL_law_17 : decode cL_law 17 = .ok (.istore_n 3, 1) := by decide +kernel
theorem dL_law_18 : decode cL_law 18 = .ok (.iload_n 3, 1) := by decide +kernel
theorem dL_law_19 : decode cL_law 19 = .ok (.aload_n 0, 1) := by decide +kernel
theorem dL_law_20 : decode cL_law 20 = .ok (.arraylength, 1) := by decide +kernel
theorem dL_law_21 : decode cL_law 21 = .ok (.iconst 5, 1) := by decide +kernel
theorem dL_law_22 : decode cL_law 22 = .ok (.isub, 1) := by decide +kernel
theorem dL_law_23 : decode cL_law 23 = .ok (.if_icmp .gt 1113, 3) := by decide +kernel
theorem dL_law_26 : decode cL_law 26 = .ok (.aload_n 0, 1) := by decide +kernel
theorem dL_law_27 : decode cL_law 27 = .ok (.iload_n 3, 1) := by decide +kernel
theorem dL_law_28 : decode cL_law 28 = .ok (.iaload, 1) := by decide +kernel
theorem dL_law_29 : decode cL_law 29 = .ok (.bipush 63, 2) := by decide +kernel
theorem dL_law_31 : decode cL_law 31 = .ok (.iand, 1) := by decide +kernel
theorem dL_law_32 : decode cL_law 32 = .ok (.tableswitch 1098 0 32 #[148, 171, 214, 247, 290, 323, 346, 369, 382, 415, 428, 451, 474, 497, 520, 543, 566, 599, 622, 655, 698, 731, 754, 787, 830, 873, 886, 909, 942, 1035, 1049, 1062, 1075], 148) := by decide +kernel
theorem dL_law_180 : decode cL_law 180 = .ok (.aload_n 1, 1) := by decide +kernel
theorem dL_law_181 : decode cL_law 181 = .ok (.aload_n 0, 1) := by decide +kernel
theorem dL_law_182 : decode cL_law 182 = .ok (.iload_n 3, 1) := by decide +kernel
theorem dL_law_183 : decode cL_law 183 = .ok (.iconst 1, 1) := by decide +kernel
theorem dL_law_184 : decode cL_law 184 = .ok (.iadd, 1) := by decide +kernel
theorem dL_law_185 : decode cL_law 185 = .ok (.iaload, 1) := by decide +kernel
theorem dL_law_186 : decode cL_law 186 = .ok (.invokevirtual 13, 3) := by decide +kernel
theorem dL_law_189 : decode cL_law 189 = .ok (.aload_n 2, 1) := by decide +kernel
theorem dL_law_190 : decode cL_law 190 = .ok (.aload_n 0, 1) := by decide +kernel
theorem dL_law_191 : decode cL_law 191 = .ok (.iload_n 3, 1) := by decide +kernel
theorem dL_law_192 : decode cL_law 192 = .ok (.iconst 1, 1) := by decide +kernel
theorem dL_law_193 : decode cL_law 193 = .ok (.iadd, 1) := by decide +kernel
theorem dL_law_194 : decode cL_law 194 = .ok (.iaload, 1) := by decide +kernel
theorem dL_law_195 : decode cL_law 195 = .ok (.invokevirtual 17, 3) := by decide +kernel
theorem dL_law_198 : decode cL_law 198 = .ok (.if_icmp .eq 932, 3) := by decide +kernel
theorem dL_law_201 : decode cL_law 201 = .ok (.iconst 0, 1) := by decide +kernel
theorem dL_law_202 : decode cL_law 202 = .ok (.ireturn, 1) := by decide +kernel
theorem dL_law_203 : decode cL_law 203 = .ok (.aload_n 1, 1) := by decide +kernel
theorem dL_law_204 : decode cL_law 204 = .ok (.aload_n 0, 1) := by decide +kernel
theorem dL_law_205 : decode cL_law 205 = .ok (.iload_n 3, 1) := by decide +kernel
theorem dL_law_206 : decode cL_law 206 = .ok (.iconst 1, 1) := by decide +kernel
theorem dL_law_207 : decode cL_law 207 = .ok (.iadd, 1) := by decide +kernel
theorem dL_law_208 : decode cL_law 208 = .ok (.iaload, 1) := by decide +kernel
theorem dL_law_209 : decode cL_law 209 = .ok (.aload_n 0, 1) := by decide +kernel
theorem dL_law_210 : decode cL_law 210 = .ok (.iload_n 3, 1) := by decide +kernel
theorem dL_law_211 : decode cL_law 211 = .ok (.iconst 2, 1) := by decide +kernel
theorem dL_law_212 : decode cL_law 212 = .ok (.iadd, 1) := by decide +kernel
theorem dL_law_213 : decode cL_law 213 = .ok (.iaload, 1) := by decide +kernel
theorem dL_law_214 : decode cL_law 214 = .ok (.aload_n 0, 1) := by decide +kernel
theorem dL_law_215 : decode cL_law 215 = .ok (.iload_n 3, 1) := by decide +kernel
theorem dL_law_216 : decode cL_law 216 = .ok (.iconst 3, 1) := by decide +kernel
theorem dL_law_217 : decode cL_law 217 = .ok (.iadd, 1) := by decide +kernel
theorem dL_law_218 : decode cL_law 218 = .ok (.iaload, 1) := by decide +kernel
theorem dL_law_219 : decode cL_law 219 = .ok (.invokevirtual 18, 3) := by decide +kernel
theorem dL_law_222 : decode cL_law 222 = .ok (.aload_n 2, 1) := by decide +kernel
theorem dL_law_223 : decode cL_law 223 = .ok (.aload_n 0, 1) := by decide +kernel
theorem dL_law_224 : decode cL_law 224 = .ok (.iload_n 3, 1) := by decide +kernel
theorem dL_law_225 : decode cL_law 225 = .ok (.iconst 1, 1) := by decide +kernel
theorem dL_law_226 : decode cL_law 226 = .ok (.iadd, 1) := by decide +kernel
theorem dL_law_227 : decode cL_law 227 = .ok (.iaload, 1) := by decide +kernel
theorem dL_law_228 : decode cL_law 228 = .ok (.aload_n 0, 1) := by decide +kernel
theorem dL_law_229 : decode cL_law 229 = .ok (.iload_n 3, 1) := by decide +kernel
theorem dL_law_230 : decode cL_law 230 = .ok (.iconst 2, 1) := by decide +kernel
theorem dL_law_231 : decode cL_law 231 = .ok (.iadd, 1) := by decide +kernel
theorem dL_law_232 : decode cL_law 232 = .ok (.iaload, 1) := by decide +kernel
theorem dL_law_233 : decode cL_law 233 = .ok (.aload_n 0, 1) := by decide +kernel
theorem dL_law_234 : decode cL_law 234 = .ok (.iload_n 3, 1) := by decide +kernel
theorem dL_law_235 : decode cL_law 235 = .ok (.iconst 3, 1) := by decide +kernel
theorem dL_law_236 : decode cL_law 236 = .ok (.iadd, 1) := by decide +kernel
theorem dL_law_237 : decode cL_law 237 = .ok (.iaload, 1) := by decide +kernel
theorem dL_law_238 : decode cL_law 238 = .ok (.invokevirtual 22, 3) := by decide +kernel
theorem dL_law_241 : decode cL_law 241 = .ok (.if_icmp .eq 889, 3) := by decide +kernel
theorem dL_law_244 : decode cL_law 244 = .ok (.iconst 0, 1) := by decide +kernel
theorem dL_law_245 : decode cL_law 245 = .ok (.ireturn, 1) := by decide +kernel
theorem dL_law_246 : decode cL_law 246 = .ok (.aload_n 1, 1) := by decide +kernel
theorem dL_law_247 : decode cL_law 247 = .ok (.aload_n 0, 1) := by decide +kernel
theorem dL_law_248 : decode cL_law 248 = .ok (.iload_n 3, 1) := by decide +kernel
theorem dL_law_249 : decode cL_law 249 = .ok (.iconst 1, 1) := by decide +kernel
theorem dL_law_250 : decode cL_law 250 = .ok (.iadd, 1) := by decide +kernel
theorem dL_law_251 : decode cL_law 251 = .ok (.iaload, 1) := by decide +kernel
theorem dL_law_252 : decode cL_law 252 = .ok (.aload_n 0, 1) := by decide +kernel
theorem dL_law_253 : decode cL_law 253 = .ok (.iload_n 3, 1) := by decide +kernel
theorem dL_law_254 : decode cL_law 254 = .ok (.iconst 2, 1) := by decide +kernel
theorem dL_law_255 : decode cL_law 255 = .ok (.iadd, 1) := by decide +kernel
theorem dL_law_256 : decode cL_law 256 = .ok (.iaload, 1) := by decide +kernel
theorem dL_law_257 : decode cL_law 257 = .ok (.invokevirtual 23, 3) := by decide +kernel
theorem dL_law_260 : decode cL_law 260 = .ok (.aload_n 2, 1) := by decide +kernel
theorem dL_law_261 : decode cL_law 261 = .ok (.aload_n 0, 1) := by decide +kernel
theorem dL_law_262 : decode cL_law 262 = .ok (.iload_n 3, 1) := by decide +kernel
theorem dL_law_263 : decode cL_law 263 = .ok (.iconst 1, 1) := by decide +kernel
theorem dL_law_264 : decode cL_law 264 = .ok (.iadd, 1) := by decide +kernel
theorem dL_law_265 : decode cL_law 265 = .ok (.iaload, 1) := by decide +kernel
theorem dL_law_266 : decode cL_law 266 = .ok (.aload_n 0, 1) := by decide +kernel
theorem dL_law_267 : decode cL_law 267 = .ok (.iload_n 3, 1) := by decide +kernel
theorem dL_law_268 : decode cL_law 268 = .ok (.iconst 2, 1) := by decide +kernel
theorem dL_law_269 : decode cL_law 269 = .ok (.iadd, 1) := by decide +kernel
theorem dL_law_270 : decode cL_law 270 = .ok (.iaload, 1) := by decide +kernel
theorem dL_law_271 : decode cL_law 271 = .ok (.invokevirtual 27, 3) := by decide +kernel
theorem dL_law_274 : decode cL_law 274 = .ok (.if_icmp .eq 856, 3) := by decide +kernel
theorem dL_law_277 : decode cL_law 277 = .ok (.iconst 0, 1) := by decide +kernel
theorem dL_law_278 : decode cL_law 278 = .ok (.ireturn, 1) := by decide +kernel
theorem dL_law_279 : decode cL_law 279 = .ok (.aload_n 1, 1) := by decide +kernel
theorem dL_law_280 : decode cL_law 280 = .ok (.aload_n 0, 1) := by decide +kernel
theorem dL_law_281 : decode cL_law 281 = .ok (.iload_n 3, 1) := by decide +kernel
theorem dL_law_282 : decode cL_law 282 = .ok (.iconst 1, 1) := by decide +kernel
theorem dL_law_283 : decode cL_law 283 = .ok (.iadd, 1) := by decide +kernel
theorem dL_law_284 : decode cL_law 284 = .ok (.iaload, 1) := by decide +kernel
theorem dL_law_285 : decode cL_law 285 = .ok (.aload_n 0, 1) := by decide +kernel
theorem dL_law_286 : decode cL_law 286 = .ok (.iload_n 3, 1) := by decide +kernel
theorem dL_law_287 : decode cL_law 287 = .ok (.iconst 2, 1) := by decide +kernel
theorem dL_law_288 : decode cL_law 288 = .ok (.iadd, 1) := by decide +kernel
theorem dL_law_289 : decode cL_law 289 = .ok (.iaload, 1) := by decide +kernel
theorem dL_law_290 : decode cL_law 290 = .ok (.aload_n 0, 1) := by decide +kernel
theorem dL_law_291 : decode cL_law 291 = .ok (.iload_n 3, 1) := by decide +kernel
theorem dL_law_292 : decode cL_law 292 = .ok (.iconst 3, 1) := by decide +kernel
theorem dL_law_293 : decode cL_law 293 = .ok (.iadd, 1) := by decide +kernel
theorem dL_law_294 : decode cL_law 294 = .ok (.iaload, 1) := by decide +kernel
theorem dL_law_295 : decode cL_law 295 = .ok (.invokevirtual 28, 3) := by decide +kernel
theorem dL_law_298 : decode cL_law 298 = .ok (.aload_n 2, 1) := by decide +kernel
theorem dL_law_299 : decode cL_law 299 = .ok (.aload_n 0, 1) := by decide +kernel
theorem dL_law_300 : decode cL_law 300 = .ok (.iload_n 3, 1) := by decide +kernel
theorem dL_law_301 : decode cL_law 301 = .ok (.iconst 1, 1) := by decide +kernel
theorem dL_law_302 : decode cL_law 302 = .ok (.iadd, 1) := by decide +kernel
theorem dL_law_303 : decode cL_law 303 = .ok (.iaload, 1) := by decide +kernel
theorem dL_law_304 : decode cL_law 304 = .ok (.aload_n 0, 1) := by decide +kernel
theorem dL_law_305 : decode cL_law 305 = .ok (.iload_n 3, 1) := by decide +kernel
theorem dL_law_306 : decode cL_law 306 = .ok (.iconst 2, 1) := by decide +kernel
theorem dL_law_307 : decode cL_law 307 = .ok (.iadd, 1) := by decide +kernel
theorem dL_law_308 : decode cL_law 308 = .ok (.iaload, 1) := by decide +kernel
theorem dL_law_309 : decode cL_law 309 = .ok (.aload_n 0, 1) := by decide +kernel
theorem dL_law_310 : decode cL_law 310 = .ok (.iload_n 3, 1) := by decide +kernel
theorem dL_law_311 : decode cL_law 311 = .ok (.iconst 3, 1) := by decide +kernel
theorem dL_law_312 : decode cL_law 312 = .ok (.iadd, 1) := by decide +kernel
theorem dL_law_313 : decode cL_law 313 = .ok (.iaload, 1) := by decide +kernel
theorem dL_law_314 : decode cL_law 314 = .ok (.invokevirtual 31, 3) := by decide +kernel
theorem dL_law_317 : decode cL_law 317 = .ok (.if_icmp .eq 813, 3) := by decide +kernel
theorem dL_law_320 : decode cL_law 320 = .ok (.iconst 0, 1) := by decide +kernel
theorem dL_law_321 : decode cL_law 321 = .ok (.ireturn, 1) := by decide +kernel
theorem dL_law_322 : decode cL_law 322 = .ok (.aload_n 1, 1) := by decide +kernel
theorem dL_law_323 : decode cL_law 323 = .ok (.aload_n 0, 1) := by decide +kernel
theorem dL_law_324 : decode cL_law 324 = .ok (.iload_n 3, 1) := by decide +kernel
theorem dL_law_325 : decode cL_law 325 = .ok (.iconst 1, 1) := by decide +kernel
theorem dL_law_326 : decode cL_law 326 = .ok (.iadd, 1) := by decide +kernel
theorem dL_law_327 : decode cL_law 327 = .ok (.iaload, 1) := by decide +kernel
theorem dL_law_328 : decode cL_law 328 = .ok (.aload_n 0, 1) := by decide +kernel
theorem dL_law_329 : decode cL_law 329 = .ok (.iload_n 3, 1) := by decide +kernel
theorem dL_law_330 : decode cL_law 330 = .ok (.iconst 2, 1) := by decide +kernel
theorem dL_law_331 : decode cL_law 331 = .ok (.iadd, 1) := by decide +kernel
theorem dL_law_332 : decode cL_law 332 = .ok (.iaload, 1) := by decide +kernel
theorem dL_law_333 : decode cL_law 333 = .ok (.invokevirtual 32, 3) := by decide +kernel
theorem dL_law_336 : decode cL_law 336 = .ok (.aload_n 2, 1) := by decide +kernel
theorem dL_law_337 : decode cL_law 337 = .ok (.aload_n 0, 1) := by decide +kernel
theorem dL_law_338 : decode cL_law 338 = .ok (.iload_n 3, 1) := by decide +kernel
theorem dL_law_339 : decode cL_law 339 = .ok (.iconst 1, 1) := by decide +kernel
theorem dL_law_340 : decode cL_law 340 = .ok (.iadd, 1) := by decide +kernel
theorem dL_law_341 : decode cL_law 341 = .ok (.iaload, 1) := by decide +kernel
theorem dL_law_342 : decode cL_law 342 = .ok (.aload_n 0, 1) := by decide +kernel
theorem dL_law_343 : decode cL_law 343 = .ok (.iload_n 3, 1) := by decide +kernel
theorem dL_law_344 : decode cL_law 344 = .ok (.iconst 2, 1) := by decide +kernel
theorem dL_law_345 : decode cL_law 345 = .ok (.iadd, 1) := by decide +kernel
theorem dL_law_346 : decode cL_law 346 = .ok (.iaload, 1) := by decide +kernel
theorem dL_law_347 : decode cL_law 347 = .ok (.invokevirtual 35, 3) := by decide +kernel
theorem dL_law_350 : decode cL_law 350 = .ok (.if_icmp .eq 780, 3) := by decide +kernel
theorem dL_law_353 : decode cL_law 353 = .ok (.iconst 0, 1) := by decide +kernel
theorem dL_law_354 : decode cL_law 354 = .ok (.ireturn, 1) := by decide +kernel
theorem dL_law_355 : decode cL_law 355 = .ok (.aload_n 1, 1) := by decide +kernel
theorem dL_law_356 : decode cL_law 356 = .ok (.aload_n 0, 1) := by decide +kernel
theorem dL_law_357 : decode cL_law 357 = .ok (.iload_n 3, 1) := by decide +kernel
theorem dL_law_358 : decode cL_law 358 = .ok (.iconst 1, 1) := by decide +kernel
theorem dL_law_359 : decode cL_law 359 = .ok (.iadd, 1) := by decide +kernel
theorem dL_law_360 : decode cL_law 360 = .ok (.iaload, 1) := by decide +kernel
theorem dL_law_361 : decode cL_law 361 = .ok (.invokevirtual 36, 3) := by decide +kernel
theorem dL_law_364 : decode cL_law 364 = .ok (.aload_n 2, 1) := by decide +kernel
theorem dL_law_365 : decode cL_law 365 = .ok (.aload_n 0, 1) := by decide +kernel
theorem dL_law_366 : decode cL_law 366 = .ok (.iload_n 3, 1) := by decide +kernel
theorem dL_law_367 : decode cL_law 367 = .ok (.iconst 1, 1) := by decide +kernel
theorem dL_law_368 : decode cL_law 368 = .ok (.iadd, 1) := by decide +kernel
theorem dL_law_369 : decode cL_law 369 = .ok (.iaload, 1) := by decide +kernel
theorem dL_law_370 : decode cL_law 370 = .ok (.invokevirtual 39, 3) := by decide +kernel
theorem dL_law_373 : decode cL_law 373 = .ok (.if_icmp .eq 757, 3) := by decide +kernel
theorem dL_law_376 : decode cL_law 376 = .ok (.iconst 0, 1) := by decide +kernel
theorem dL_law_377 : decode cL_law 377 = .ok (.ireturn, 1) := by decide +kernel
theorem dL_law_378 : decode cL_law 378 = .ok (.aload_n 1, 1) := by decide +kernel
theorem dL_law_379 : decode cL_law 379 = .ok (.aload_n 0, 1) := by decide +kernel
theorem dL_law_380 : decode cL_law 380 = .ok (.iload_n 3, 1) := by decide +kernel
theorem dL_law_381 : decode cL_law 381 = .ok (.iconst 1, 1) := by decide +kernel
theorem dL_law_382 : decode cL_law 382 = .ok (.iadd, 1) := by decide +kernel
theorem dL_law_383 : decode cL_law 383 = .ok (.iaload, 1) := by decide +kernel
theorem dL_law_384 : decode cL_law 384 = .ok (.invokevirtual 40, 3) := by decide +kernel
theorem dL_law_387 : decode cL_law 387 = .ok (.aload_n 2, 1) := by decide +kernel
theorem dL_law_388 : decode cL_law 388 = .ok (.aload_n 0, 1) := by decide +kernel
theorem dL_law_389 : decode cL_law 389 = .ok (.iload_n 3, 1) := by decide +kernel
theorem dL_law_390 : decode cL_law 390 = .ok (.iconst 1, 1) := by decide +kernel
theorem dL_law_391 : decode cL_law 391 = .ok (.iadd, 1) := by decide +kernel
theorem dL_law_392 : decode cL_law 392 = .ok (.iaload, 1) := by decide +kernel
theorem dL_law_393 : decode cL_law 393 = .ok (.invokevirtual 43, 3) := by decide +kernel
theorem dL_law_396 : decode cL_law 396 = .ok (.if_icmp .eq 734, 3) := by decide +kernel
theorem dL_law_399 : decode cL_law 399 = .ok (.iconst 0, 1) := by decide +kernel
theorem dL_law_400 : decode cL_law 400 = .ok (.ireturn, 1) := by decide +kernel
theorem dL_law_401 : decode cL_law 401 = .ok (.aload_n 1, 1) := by decide +kernel
theorem dL_law_402 : decode cL_law 402 = .ok (.invokevirtual 44, 3) := by decide +kernel
theorem dL_law_405 : decode cL_law 405 = .ok (.aload_n 2, 1) := by decide +kernel
theorem dL_law_406 : decode cL_law 406 = .ok (.invokevirtual 48, 3) := by decide +kernel
theorem dL_law_409 : decode cL_law 409 = .ok (.if_icmp .eq 721, 3) := by decide +kernel
theorem dL_law_412 : decode cL_law 412 = .ok (.iconst 0, 1) := by decide +kernel
theorem dL_law_413 : decode cL_law 413 = .ok (.ireturn, 1) := by decide +kernel
theorem dL_law_414 : decode cL_law 414 = .ok (.aload_n 1, 1) := by decide +kernel
theorem dL_law_415 : decode cL_law 415 = .ok (.aload_n 0, 1) := by decide +kernel
theorem dL_law_416 : decode cL_law 416 = .ok (.iload_n 3, 1) := by decide +kernel
theorem dL_law_417 : decode cL_law 417 = .ok (.iconst 1, 1) := by decide +kernel
theorem dL_law_418 : decode cL_law 418 = .ok (.iadd, 1) := by decide +kernel
theorem dL_law_419 : decode cL_law 419 = .ok (.iaload, 1) := by decide +kernel
theorem dL_law_420 : decode cL_law 420 = .ok (.aload_n 0, 1) := by decide +kernel
theorem dL_law_421 : decode cL_law 421 = .ok (.iload_n 3, 1) := by decide +kernel
theorem dL_law_422 : decode cL_law 422 = .ok (.iconst 2, 1) := by decide +kernel
theorem dL_law_423 : decode cL_law 423 = .ok (.iadd, 1) := by decide +kernel
theorem dL_law_424 : decode cL_law 424 = .ok (.iaload, 1) := by decide +kernel
theorem dL_law_425 : decode cL_law 425 = .ok (.invokevirtual 49, 3) := by decide +kernel
theorem dL_law_428 : decode cL_law 428 = .ok (.aload_n 2, 1) := by decide +kernel
theorem dL_law_429 : decode cL_law 429 = .ok (.aload_n 0, 1) := by decide +kernel
theorem dL_law_430 : decode cL_law 430 = .ok (.iload_n 3, 1) := by decide +kernel
theorem dL_law_431 : decode cL_law 431 = .ok (.iconst 1, 1) := by decide +kernel
theorem dL_law_432 : decode cL_law 432 = .ok (.iadd, 1) := by decide +kernel
theorem dL_law_433 : decode cL_law 433 = .ok (.iaload, 1) := by decide +kernel
theorem dL_law_434 : decode cL_law 434 = .ok (.aload_n 0, 1) := by decide +kernel
theorem dL_law_435 : decode cL_law 435 = .ok (.iload_n 3, 1) := by decide +kernel
theorem dL_law_436 : decode cL_law 436 = .ok (.iconst 2, 1) := by decide +kernel
theorem dL_law_437 : decode cL_law 437 = .ok (.iadd, 1) := by decide +kernel
theorem dL_law_438 : decode cL_law 438 = .ok (.iaload, 1) := by decide +kernel
theorem dL_law_439 : decode cL_law 439 = .ok (.invokevirtual 52, 3) := by decide +kernel
theorem dL_law_442 : decode cL_law 442 = .ok (.if_icmp .eq 688, 3) := by decide +kernel
theorem dL_law_445 : decode cL_law 445 = .ok (.iconst 0, 1) := by decide +kernel
theorem dL_law_446 : decode cL_law 446 = .ok (.ireturn, 1) := by decide +kernel
theorem dL_law_447 : decode cL_law 447 = .ok (.aload_n 1, 1) := by decide +kernel
theorem dL_law_448 : decode cL_law 448 = .ok (.invokevirtual 53, 3) := by decide +kernel
theorem dL_law_451 : decode cL_law 451 = .ok (.aload_n 2, 1) := by decide +kernel
theorem dL_law_452 : decode cL_law 452 = .ok (.invokevirtual 56, 3) := by decide +kernel
theorem dL_law_455 : decode cL_law 455 = .ok (.if_icmp .eq 675, 3) := by decide +kernel
theorem dL_law_458 : decode cL_law 458 = .ok (.iconst 0, 1) := by decide +kernel
theorem dL_law_459 : decode cL_law 459 = .ok (.ireturn, 1) := by decide +kernel
theorem dL_law_460 : decode cL_law 460 = .ok (.aload_n 1, 1) := by decide +kernel
theorem dL_law_461 : decode cL_law 461 = .ok (.aload_n 0, 1) := by decide +kernel
theorem dL_law_462 : decode cL_law 462 = .ok (.iload_n 3, 1) := by decide +kernel
theorem dL_law_463 : decode cL_law 463 = .ok (.iconst 1, 1) := by decide +kernel
theorem dL_law_464 : decode cL_law 464 = .ok (.iadd, 1) := by decide +kernel
theorem dL_law_465 : decode cL_law 465 = .ok (.iaload, 1) := by decide +kernel
theorem dL_law_466 : decode cL_law 466 = .ok (.invokevirtual 57, 3) := by decide +kernel
theorem dL_law_469 : decode cL_law 469 = .ok (.aload_n 2, 1) := by decide +kernel
theorem dL_law_470 : decode cL_law 470 = .ok (.aload_n 0, 1) := by decide +kernel
theorem dL_law_471 : decode cL_law 471 = .ok (.iload_n 3, 1) := by decide +kernel
theorem dL_law_472 : decode cL_law 472 = .ok (.iconst 1, 1) := by decide +kernel
theorem dL_law_473 : decode cL_law 473 = .ok (.iadd, 1) := by decide +kernel
theorem dL_law_474 : decode cL_law 474 = .ok (.iaload, 1) := by decide +kernel
theorem dL_law_475 : decode cL_law 475 = .ok (.invokevirtual 60, 3) := by decide +kernel
theorem dL_law_478 : decode cL_law 478 = .ok (.if_icmp .eq 652, 3) := by decide +kernel
theorem dL_law_481 : decode cL_law 481 = .ok (.iconst 0, 1) := by decide +kernel
theorem dL_law_482 : decode cL_law 482 = .ok (.ireturn, 1) := by decide +kernel
theorem dL_law_483 : decode cL_law 483 = .ok (.aload_n 1, 1) := by decide +kernel
theorem dL_law_484 : decode cL_law 484 = .ok (.aload_n 0, 1) := by decide +kernel
theorem dL_law_485 : decode cL_law 485 = .ok (.iload_n 3, 1) := by decide +kernel
theorem dL_law_486 : decode cL_law 486 = .ok (.iconst 1, 1) := by decide +kernel
theorem dL_law_487 : decode cL_law 487 = .ok (.iadd, 1) := by decide +kernel
theorem dL_law_488 : decode cL_law 488 = .ok (.iaload, 1) := by decide +kernel
theorem dL_law_489 : decode cL_law 489 = .ok (.invokevirtual 61, 3) := by decide +kernel
theorem dL_law_492 : decode cL_law 492 = .ok (.aload_n 2, 1) := by decide +kernel
theorem dL_law_493 : decode cL_law 493 = .ok (.aload_n 0, 1) := by decide +kernel
theorem dL_law_494 : decode cL_law 494 = .ok (.iload_n 3, 1) := by decide +kernel
theorem dL_law_495 : decode cL_law 495 = .ok (.iconst 1, 1) := by decide +kernel
theorem dL_law_496 : decode cL_law 496 = .ok (.iadd, 1) := by decide +kernel
theorem dL_law_497 : decode cL_law 497 = .ok (.iaload, 1) := by decide +kernel
theorem dL_law_498 : decode cL_law 498 = .ok (.invokevirtual 64, 3) := by decide +kernel
theorem dL_law_501 : decode cL_law 501 = .ok (.if_icmp .eq 629, 3) := by decide +kernel
theorem dL_law_504 : decode cL_law 504 = .ok (.iconst 0, 1) := by decide +kernel
theorem dL_law_505 : decode cL_law 505 = .ok (.ireturn, 1) := by decide +kernel
theorem dL_law_506 : decode cL_law 506 = .ok (.aload_n 1, 1) := by decide +kernel
theorem dL_law_507 : decode cL_law 507 = .ok (.aload_n 0, 1) := by decide +kernel
theorem dL_law_508 : decode cL_law 508 = .ok (.iload_n 3, 1) := by decide +kernel
theorem dL_law_509 : decode cL_law 509 = .ok (.iconst 1, 1) := by decide +kernel
theorem dL_law_510 : decode cL_law 510 = .ok (.iadd, 1) := by decide +kernel
theorem dL_law_511 : decode cL_law 511 = .ok (.iaload, 1) := by decide +kernel
theorem dL_law_512 : decode cL_law 512 = .ok (.invokevirtual 65, 3) := by decide +kernel
theorem dL_law_515 : decode cL_law 515 = .ok (.aload_n 2, 1) := by decide +kernel
theorem dL_law_516 : decode cL_law 516 = .ok (.aload_n 0, 1) := by decide +kernel
theorem dL_law_517 : decode cL_law 517 = .ok (.iload_n 3, 1) := by decide +kernel
theorem dL_law_518 : decode cL_law 518 = .ok (.iconst 1, 1) := by decide +kernel
theorem dL_law_519 : decode cL_law 519 = .ok (.iadd, 1) := by decide +kernel
theorem dL_law_520 : decode cL_law 520 = .ok (.iaload, 1) := by decide +kernel
theorem dL_law_521 : decode cL_law 521 = .ok (.invokevirtual 68, 3) := by decide +kernel
theorem dL_law_524 : decode cL_law 524 = .ok (.if_icmp .eq 606, 3) := by decide +kernel
theorem dL_law_527 : decode cL_law 527 = .ok (.iconst 0, 1) := by decide +kernel
theorem dL_law_528 : decode cL_law 528 = .ok (.ireturn, 1) := by decide +kernel
theorem dL_law_529 : decode cL_law 529 = .ok (.aload_n 1, 1) := by decide +kernel
theorem dL_law_530 : decode cL_law 530 = .ok (.aload_n 0, 1) := by decide +kernel
theorem dL_law_531 : decode cL_law 531 = .ok (.iload_n 3, 1) := by decide +kernel
theorem dL_law_532 : decode cL_law 532 = .ok (.iconst 1, 1) := by decide +kernel
theorem dL_law_533 : decode cL_law 533 = .ok (.iadd, 1) := by decide +kernel
theorem dL_law_534 : decode cL_law 534 = .ok (.iaload, 1) := by decide +kernel
theorem dL_law_535 : decode cL_law 535 = .ok (.invokevirtual 69, 3) := by decide +kernel
theorem dL_law_538 : decode cL_law 538 = .ok (.aload_n 2, 1) := by decide +kernel
theorem dL_law_539 : decode cL_law 539 = .ok (.aload_n 0, 1) := by decide +kernel
theorem dL_law_540 : decode cL_law 540 = .ok (.iload_n 3, 1) := by decide +kernel
theorem dL_law_541 : decode cL_law 541 = .ok (.iconst 1, 1) := by decide +kernel
theorem dL_law_542 : decode cL_law 542 = .ok (.iadd, 1) := by decide +kernel
theorem dL_law_543 : decode cL_law 543 = .ok (.iaload, 1) := by decide +kernel
theorem dL_law_544 : decode cL_law 544 = .ok (.invokevirtual 72, 3) := by decide +kernel
theorem dL_law_547 : decode cL_law 547 = .ok (.if_icmp .eq 583, 3) := by decide +kernel
theorem dL_law_550 : decode cL_law 550 = .ok (.iconst 0, 1) := by decide +kernel
theorem dL_law_551 : decode cL_law 551 = .ok (.ireturn, 1) := by decide +kernel
theorem dL_law_552 : decode cL_law 552 = .ok (.aload_n 1, 1) := by decide +kernel
theorem dL_law_553 : decode cL_law 553 = .ok (.aload_n 0, 1) := by decide +kernel
theorem dL_law_554 : decode cL_law 554 = .ok (.iload_n 3, 1) := by decide +kernel
theorem dL_law_555 : decode cL_law 555 = .ok (.iconst 1, 1) := by decide +kernel
theorem dL_law_556 : decode cL_law 556 = .ok (.iadd, 1) := by decide +kernel
theorem dL_law_557 : decode cL_law 557 = .ok (.iaload, 1) := by decide +kernel
theorem dL_law_558 : decode cL_law 558 = .ok (.invokevirtual 73, 3) := by decide +kernel
theorem dL_law_561 : decode cL_law 561 = .ok (.aload_n 2, 1) := by decide +kernel
theorem dL_law_562 : decode cL_law 562 = .ok (.aload_n 0, 1) := by decide +kernel
theorem dL_law_563 : decode cL_law 563 = .ok (.iload_n 3, 1) := by decide +kernel
theorem dL_law_564 : decode cL_law 564 = .ok (.iconst 1, 1) := by decide +kernel
theorem dL_law_565 : decode cL_law 565 = .ok (.iadd, 1) := by decide +kernel
theorem dL_law_566 : decode cL_law 566 = .ok (.iaload, 1) := by decide +kernel
theorem dL_law_567 : decode cL_law 567 = .ok (.invokevirtual 76, 3) := by decide +kernel
theorem dL_law_570 : decode cL_law 570 = .ok (.if_icmp .eq 560, 3) := by decide +kernel
theorem dL_law_573 : decode cL_law 573 = .ok (.iconst 0, 1) := by decide +kernel
theorem dL_law_574 : decode cL_law 574 = .ok (.ireturn, 1) := by decide +kernel
theorem dL_law_575 : decode cL_law 575 = .ok (.aload_n 1, 1) := by decide +kernel
theorem dL_law_576 : decode cL_law 576 = .ok (.aload_n 0, 1) := by decide +kernel
theorem dL_law_577 : decode cL_law 577 = .ok (.iload_n 3, 1) := by decide +kernel
theorem dL_law_578 : decode cL_law 578 = .ok (.iconst 1, 1) := by decide +kernel
theorem dL_law_579 : decode cL_law 579 = .ok (.iadd, 1) := by decide +kernel
theorem dL_law_580 : decode cL_law 580 = .ok (.iaload, 1) := by decide +kernel
theorem dL_law_581 : decode cL_law 581 = .ok (.invokevirtual 77, 3) := by decide +kernel
theorem dL_law_584 : decode cL_law 584 = .ok (.aload_n 2, 1) := by decide +kernel
theorem dL_law_585 : decode cL_law 585 = .ok (.aload_n 0, 1) := by decide +kernel
theorem dL_law_586 : decode cL_law 586 = .ok (.iload_n 3, 1) := by decide +kernel
theorem dL_law_587 : decode cL_law 587 = .ok (.iconst 1, 1) := by decide +kernel
theorem dL_law_588 : decode cL_law 588 = .ok (.iadd, 1) := by decide +kernel
theorem dL_law_589 : decode cL_law 589 = .ok (.iaload, 1) := by decide +kernel
theorem dL_law_590 : decode cL_law 590 = .ok (.invokevirtual 80, 3) := by decide +kernel
theorem dL_law_593 : decode cL_law 593 = .ok (.if_icmp .eq 537, 3) := by decide +kernel
theorem dL_law_596 : decode cL_law 596 = .ok (.iconst 0, 1) := by decide +kernel
theorem dL_law_597 : decode cL_law 597 = .ok (.ireturn, 1) := by decide +kernel
theorem dL_law_598 : decode cL_law 598 = .ok (.aload_n 1, 1) := by decide +kernel
theorem dL_law_599 : decode cL_law 599 = .ok (.aload_n 0, 1) := by decide +kernel
theorem dL_law_600 : decode cL_law 600 = .ok (.iload_n 3, 1) := by decide +kernel
theorem dL_law_601 : decode cL_law 601 = .ok (.iconst 1, 1) := by decide +kernel
theorem dL_law_602 : decode cL_law 602 = .ok (.iadd, 1) := by decide +kernel
theorem dL_law_603 : decode cL_law 603 = .ok (.iaload, 1) := by decide +kernel
theorem dL_law_604 : decode cL_law 604 = .ok (.aload_n 0, 1) := by decide +kernel
theorem dL_law_605 : decode cL_law 605 = .ok (.iload_n 3, 1) := by decide +kernel
theorem dL_law_606 : decode cL_law 606 = .ok (.iconst 2, 1) := by decide +kernel
theorem dL_law_607 : decode cL_law 607 = .ok (.iadd, 1) := by decide +kernel
theorem dL_law_608 : decode cL_law 608 = .ok (.iaload, 1) := by decide +kernel
theorem dL_law_609 : decode cL_law 609 = .ok (.invokevirtual 81, 3) := by decide +kernel
theorem dL_law_612 : decode cL_law 612 = .ok (.aload_n 2, 1) := by decide +kernel
theorem dL_law_613 : decode cL_law 613 = .ok (.aload_n 0, 1) := by decide +kernel
theorem dL_law_614 : decode cL_law 614 = .ok (.iload_n 3, 1) := by decide +kernel
theorem dL_law_615 : decode cL_law 615 = .ok (.iconst 1, 1) := by decide +kernel
theorem dL_law_616 : decode cL_law 616 = .ok (.iadd, 1) := by decide +kernel
theorem dL_law_617 : decode cL_law 617 = .ok (.iaload, 1) := by decide +kernel
theorem dL_law_618 : decode cL_law 618 = .ok (.aload_n 0, 1) := by decide +kernel
theorem dL_law_619 : decode cL_law 619 = .ok (.iload_n 3, 1) := by decide +kernel
theorem dL_law_620 : decode cL_law 620 = .ok (.iconst 2, 1) := by decide +kernel
theorem dL_law_621 : decode cL_law 621 = .ok (.iadd, 1) := by decide +kernel
theorem dL_law_622 : decode cL_law 622 = .ok (.iaload, 1) := by decide +kernel
theorem dL_law_623 : decode cL_law 623 = .ok (.invokevirtual 84, 3) := by decide +kernel
theorem dL_law_626 : decode cL_law 626 = .ok (.if_icmp .eq 504, 3) := by decide +kernel
theorem dL_law_629 : decode cL_law 629 = .ok (.iconst 0, 1) := by decide +kernel
theorem dL_law_630 : decode cL_law 630 = .ok (.ireturn, 1) := by decide +kernel
theorem dL_law_631 : decode cL_law 631 = .ok (.aload_n 1, 1) := by decide +kernel
theorem dL_law_632 : decode cL_law 632 = .ok (.aload_n 0, 1) := by decide +kernel
theorem dL_law_633 : decode cL_law 633 = .ok (.iload_n 3, 1) := by decide +kernel
theorem dL_law_634 : decode cL_law 634 = .ok (.iconst 1, 1) := by decide +kernel
theorem dL_law_635 : decode cL_law 635 = .ok (.iadd, 1) := by decide +kernel
theorem dL_law_636 : decode cL_law 636 = .ok (.iaload, 1) := by decide +kernel
theorem dL_law_637 : decode cL_law 637 = .ok (.invokevirtual 85, 3) := by decide +kernel
theorem dL_law_640 : decode cL_law 640 = .ok (.aload_n 2, 1) := by decide +kernel
theorem dL_law_641 : decode cL_law 641 = .ok (.aload_n 0, 1) := by decide +kernel
theorem dL_law_642 : decode cL_law 642 = .ok (.iload_n 3, 1) := by decide +kernel
theorem dL_law_643 : decode cL_law 643 = .ok (.iconst 1, 1) := by decide +kernel
theorem dL_law_644 : decode cL_law 644 = .ok (.iadd, 1) := by decide +kernel
theorem dL_law_645 : decode cL_law 645 = .ok (.iaload, 1) := by decide +kernel
theorem dL_law_646 : decode cL_law 646 = .ok (.invokevirtual 88, 3) := by decide +kernel
theorem dL_law_649 : decode cL_law 649 = .ok (.if_icmp .eq 481, 3) := by decide +kernel
theorem dL_law_652 : decode cL_law 652 = .ok (.iconst 0, 1) := by decide +kernel
theorem dL_law_653 : decode cL_law 653 = .ok (.ireturn, 1) := by decide +kernel
theorem dL_law_654 : decode cL_law 654 = .ok (.aload_n 1, 1) := by decide +kernel
theorem dL_law_655 : decode cL_law 655 = .ok (.aload_n 0, 1) := by decide +kernel
theorem dL_law_656 : decode cL_law 656 = .ok (.iload_n 3, 1) := by decide +kernel
theorem dL_law_657 : decode cL_law 657 = .ok (.iconst 1, 1) := by decide +kernel
theorem dL_law_658 : decode cL_law 658 = .ok (.iadd, 1) := by decide +kernel
theorem dL_law_659 : decode cL_law 659 = .ok (.iaload, 1) := by decide +kernel
theorem dL_law_660 : decode cL_law 660 = .ok (.aload_n 0, 1) := by decide +kernel
theorem dL_law_661 : decode cL_law 661 = .ok (.iload_n 3, 1) := by decide +kernel
theorem dL_law_662 : decode cL_law 662 = .ok (.iconst 2, 1) := by decide +kernel
theorem dL_law_663 : decode cL_law 663 = .ok (.iadd, 1) := by decide +kernel
theorem dL_law_664 : decode cL_law 664 = .ok (.iaload, 1) := by decide +kernel
theorem dL_law_665 : decode cL_law 665 = .ok (.invokevirtual 89, 3) := by decide +kernel
theorem dL_law_668 : decode cL_law 668 = .ok (.aload_n 2, 1) := by decide +kernel
theorem dL_law_669 : decode cL_law 669 = .ok (.aload_n 0, 1) := by decide +kernel
theorem dL_law_670 : decode cL_law 670 = .ok (.iload_n 3, 1) := by decide +kernel
theorem dL_law_671 : decode cL_law 671 = .ok (.iconst 1, 1) := by decide +kernel
theorem dL_law_672 : decode cL_law 672 = .ok (.iadd, 1) := by decide +kernel
theorem dL_law_673 : decode cL_law 673 = .ok (.iaload, 1) := by decide +kernel
theorem dL_law_674 : decode cL_law 674 = .ok (.aload_n 0, 1) := by decide +kernel
theorem dL_law_675 : decode cL_law 675 = .ok (.iload_n 3, 1) := by decide +kernel
theorem dL_law_676 : decode cL_law 676 = .ok (.iconst 2, 1) := by decide +kernel
theorem dL_law_677 : decode cL_law 677 = .ok (.iadd, 1) := by decide +kernel
theorem dL_law_678 : decode cL_law 678 = .ok (.iaload, 1) := by decide +kernel
theorem dL_law_679 : decode cL_law 679 = .ok (.invokevirtual 92, 3) := by decide +kernel
theorem dL_law_682 : decode cL_law 682 = .ok (.if_icmp .eq 448, 3) := by decide +kernel
theorem dL_law_685 : decode cL_law 685 = .ok (.iconst 0, 1) := by decide +kernel
theorem dL_law_686 : decode cL_law 686 = .ok (.ireturn, 1) := by decide +kernel
theorem dL_law_687 : decode cL_law 687 = .ok (.aload_n 1, 1) := by decide +kernel
theorem dL_law_688 : decode cL_law 688 = .ok (.aload_n 0, 1) := by decide +kernel
theorem dL_law_689 : decode cL_law 689 = .ok (.iload_n 3, 1) := by decide +kernel
theorem dL_law_690 : decode cL_law 690 = .ok (.iconst 1, 1) := by decide +kernel
theorem dL_law_691 : decode cL_law 691 = .ok (.iadd, 1) := by decide +kernel
theorem dL_law_692 : decode cL_law 692 = .ok (.iaload, 1) := by decide +kernel
theorem dL_law_693 : decode cL_law 693 = .ok (.aload_n 0, 1) := by decide +kernel
theorem dL_law_694 : decode cL_law 694 = .ok (.iload_n 3, 1) := by decide +kernel
theorem dL_law_695 : decode cL_law 695 = .ok (.iconst 2, 1) := by decide +kernel
theorem dL_law_696 : decode cL_law 696 = .ok (.iadd, 1) := by decide +kernel
theorem dL_law_697 : decode cL_law 697 = .ok (.iaload, 1) := by decide +kernel
theorem dL_law_698 : decode cL_law 698 = .ok (.aload_n 0, 1) := by decide +kernel
theorem dL_law_699 : decode cL_law 699 = .ok (.iload_n 3, 1) := by decide +kernel
theorem dL_law_700 : decode cL_law 700 = .ok (.iconst 3, 1) := by decide +kernel
theorem dL_law_701 : decode cL_law 701 = .ok (.iadd, 1) := by decide +kernel
theorem dL_law_702 : decode cL_law 702 = .ok (.iaload, 1) := by decide +kernel
theorem dL_law_703 : decode cL_law 703 = .ok (.invokevirtual 93, 3) := by decide +kernel
theorem dL_law_706 : decode cL_law 706 = .ok (.aload_n 2, 1) := by decide +kernel
theorem dL_law_707 : decode cL_law 707 = .ok (.aload_n 0, 1) := by decide +kernel
theorem dL_law_708 : decode cL_law 708 = .ok (.iload_n 3, 1) := by decide +kernel
theorem dL_law_709 : decode cL_law 709 = .ok (.iconst 1, 1) := by decide +kernel
theorem dL_law_710 : decode cL_law 710 = .ok (.iadd, 1) := by decide +kernel
theorem dL_law_711 : decode cL_law 711 = .ok (.iaload, 1) := by decide +kernel
theorem dL_law_712 : decode cL_law 712 = .ok (.aload_n 0, 1) := by decide +kernel
theorem dL_law_713 : decode cL_law 713 = .ok (.iload_n 3, 1) := by decide +kernel
theorem dL_law_714 : decode cL_law 714 = .ok (.iconst 2, 1) := by decide +kernel
theorem dL_law_715 : decode cL_law 715 = .ok (.iadd, 1) := by decide +kernel
theorem dL_law_716 : decode cL_law 716 = .ok (.iaload, 1) := by decide +kernel
theorem dL_law_717 : decode cL_law 717 = .ok (.aload_n 0, 1) := by decide +kernel
theorem dL_law_718 : decode cL_law 718 = .ok (.iload_n 3, 1) := by decide +kernel
theorem dL_law_719 : decode cL_law 719 = .ok (.iconst 3, 1) := by decide +kernel
theorem dL_law_720 : decode cL_law 720 = .ok (.iadd, 1) := by decide +kernel
theorem dL_law_721 : decode cL_law 721 = .ok (.iaload, 1) := by decide +kernel
theorem dL_law_722 : decode cL_law 722 = .ok (.invokevirtual 96, 3) := by decide +kernel
theorem dL_law_725 : decode cL_law 725 = .ok (.if_icmp .eq 405, 3) := by decide +kernel
theorem dL_law_728 : decode cL_law 728 = .ok (.iconst 0, 1) := by decide +kernel
theorem dL_law_729 : decode cL_law 729 = .ok (.ireturn, 1) := by decide +kernel
theorem dL_law_730 : decode cL_law 730 = .ok (.aload_n 1, 1) := by decide +kernel
theorem dL_law_731 : decode cL_law 731 = .ok (.aload_n 0, 1) := by decide +kernel
theorem dL_law_732 : decode cL_law 732 = .ok (.iload_n 3, 1) := by decide +kernel
theorem dL_law_733 : decode cL_law 733 = .ok (.iconst 1, 1) := by decide +kernel
theorem dL_law_734 : decode cL_law 734 = .ok (.iadd, 1) := by decide +kernel
theorem dL_law_735 : decode cL_law 735 = .ok (.iaload, 1) := by decide +kernel
theorem dL_law_736 : decode cL_law 736 = .ok (.aload_n 0, 1) := by decide +kernel
theorem dL_law_737 : decode cL_law 737 = .ok (.iload_n 3, 1) := by decide +kernel
theorem dL_law_738 : decode cL_law 738 = .ok (.iconst 2, 1) := by decide +kernel
theorem dL_law_739 : decode cL_law 739 = .ok (.iadd, 1) := by decide +kernel
theorem dL_law_740 : decode cL_law 740 = .ok (.iaload, 1) := by decide +kernel
theorem dL_law_741 : decode cL_law 741 = .ok (.invokevirtual 97, 3) := by decide +kernel
theorem dL_law_744 : decode cL_law 744 = .ok (.aload_n 2, 1) := by decide +kernel
theorem dL_law_745 : decode cL_law 745 = .ok (.aload_n 0, 1) := by decide +kernel
theorem dL_law_746 : decode cL_law 746 = .ok (.iload_n 3, 1) := by decide +kernel
theorem dL_law_747 : decode cL_law 747 = .ok (.iconst 1, 1) := by decide +kernel
theorem dL_law_748 : decode cL_law 748 = .ok (.iadd, 1) := by decide +kernel
theorem dL_law_749 : decode cL_law 749 = .ok (.iaload, 1) := by decide +kernel
theorem dL_law_750 : decode cL_law 750 = .ok (.aload_n 0, 1) := by decide +kernel
theorem dL_law_751 : decode cL_law 751 = .ok (.iload_n 3, 1) := by decide +kernel
theorem dL_law_752 : decode cL_law 752 = .ok (.iconst 2, 1) := by decide +kernel
theorem dL_law_753 : decode cL_law 753 = .ok (.iadd, 1) := by decide +kernel
theorem dL_law_754 : decode cL_law 754 = .ok (.iaload, 1) := by decide +kernel
theorem dL_law_755 : decode cL_law 755 = .ok (.invokevirtual 100, 3) := by decide +kernel
theorem dL_law_758 : decode cL_law 758 = .ok (.if_icmp .eq 372, 3) := by decide +kernel
theorem dL_law_761 : decode cL_law 761 = .ok (.iconst 0, 1) := by decide +kernel
theorem dL_law_762 : decode cL_law 762 = .ok (.ireturn, 1) := by decide +kernel
theorem dL_law_763 : decode cL_law 763 = .ok (.aload_n 1, 1) := by decide +kernel
theorem dL_law_764 : decode cL_law 764 = .ok (.aload_n 0, 1) := by decide +kernel
theorem dL_law_765 : decode cL_law 765 = .ok (.iload_n 3, 1) := by decide +kernel
theorem dL_law_766 : decode cL_law 766 = .ok (.iconst 1, 1) := by decide +kernel
theorem dL_law_767 : decode cL_law 767 = .ok (.iadd, 1) := by decide +kernel
theorem dL_law_768 : decode cL_law 768 = .ok (.iaload, 1) := by decide +kernel
theorem dL_law_769 : decode cL_law 769 = .ok (.invokevirtual 101, 3) := by decide +kernel
theorem dL_law_772 : decode cL_law 772 = .ok (.aload_n 2, 1) := by decide +kernel
theorem dL_law_773 : decode cL_law 773 = .ok (.aload_n 0, 1) := by decide +kernel
theorem dL_law_774 : decode cL_law 774 = .ok (.iload_n 3, 1) := by decide +kernel
theorem dL_law_775 : decode cL_law 775 = .ok (.iconst 1, 1) := by decide +kernel
theorem dL_law_776 : decode cL_law 776 = .ok (.iadd, 1) := by decide +kernel
theorem dL_law_777 : decode cL_law 777 = .ok (.iaload, 1) := by decide +kernel
theorem dL_law_778 : decode cL_law 778 = .ok (.invokevirtual 104, 3) := by decide +kernel
theorem dL_law_781 : decode cL_law 781 = .ok (.if_icmp .eq 349, 3) := by decide +kernel
theorem dL_law_784 : decode cL_law 784 = .ok (.iconst 0, 1) := by decide +kernel
theorem dL_law_785 : decode cL_law 785 = .ok (.ireturn, 1) := by decide +kernel
theorem dL_law_786 : decode cL_law 786 = .ok (.aload_n 1, 1) := by decide +kernel
theorem dL_law_787 : decode cL_law 787 = .ok (.aload_n 0, 1) := by decide +kernel
theorem dL_law_788 : decode cL_law 788 = .ok (.iload_n 3, 1) := by decide +kernel
theorem dL_law_789 : decode cL_law 789 = .ok (.iconst 1, 1) := by decide +kernel
theorem dL_law_790 : decode cL_law 790 = .ok (.iadd, 1) := by decide +kernel
theorem dL_law_791 : decode cL_law 791 = .ok (.iaload, 1) := by decide +kernel
theorem dL_law_792 : decode cL_law 792 = .ok (.aload_n 0, 1) := by decide +kernel
theorem dL_law_793 : decode cL_law 793 = .ok (.iload_n 3, 1) := by decide +kernel
theorem dL_law_794 : decode cL_law 794 = .ok (.iconst 2, 1) := by decide +kernel
theorem dL_law_795 : decode cL_law 795 = .ok (.iadd, 1) := by decide +kernel
theorem dL_law_796 : decode cL_law 796 = .ok (.iaload, 1) := by decide +kernel
theorem dL_law_797 : decode cL_law 797 = .ok (.invokevirtual 105, 3) := by decide +kernel
theorem dL_law_800 : decode cL_law 800 = .ok (.aload_n 2, 1) := by decide +kernel
theorem dL_law_801 : decode cL_law 801 = .ok (.aload_n 0, 1) := by decide +kernel
theorem dL_law_802 : decode cL_law 802 = .ok (.iload_n 3, 1) := by decide +kernel
theorem dL_law_803 : decode cL_law 803 = .ok (.iconst 1, 1) := by decide +kernel
theorem dL_law_804 : decode cL_law 804 = .ok (.iadd, 1) := by decide +kernel
theorem dL_law_805 : decode cL_law 805 = .ok (.iaload, 1) := by decide +kernel
theorem dL_law_806 : decode cL_law 806 = .ok (.aload_n 0, 1) := by decide +kernel
theorem dL_law_807 : decode cL_law 807 = .ok (.iload_n 3, 1) := by decide +kernel
theorem dL_law_808 : decode cL_law 808 = .ok (.iconst 2, 1) := by decide +kernel
theorem dL_law_809 : decode cL_law 809 = .ok (.iadd, 1) := by decide +kernel
theorem dL_law_810 : decode cL_law 810 = .ok (.iaload, 1) := by decide +kernel
theorem dL_law_811 : decode cL_law 811 = .ok (.invokevirtual 108, 3) := by decide +kernel
theorem dL_law_814 : decode cL_law 814 = .ok (.if_icmp .eq 316, 3) := by decide +kernel
theorem dL_law_817 : decode cL_law 817 = .ok (.iconst 0, 1) := by decide +kernel
theorem dL_law_818 : decode cL_law 818 = .ok (.ireturn, 1) := by decide +kernel
theorem dL_law_819 : decode cL_law 819 = .ok (.aload_n 1, 1) := by decide +kernel
theorem dL_law_820 : decode cL_law 820 = .ok (.aload_n 0, 1) := by decide +kernel
theorem dL_law_821 : decode cL_law 821 = .ok (.iload_n 3, 1) := by decide +kernel
theorem dL_law_822 : decode cL_law 822 = .ok (.iconst 1, 1) := by decide +kernel
theorem dL_law_823 : decode cL_law 823 = .ok (.iadd, 1) := by decide +kernel
theorem dL_law_824 : decode cL_law 824 = .ok (.iaload, 1) := by decide +kernel
theorem dL_law_825 : decode cL_law 825 = .ok (.aload_n 0, 1) := by decide +kernel
theorem dL_law_826 : decode cL_law 826 = .ok (.iload_n 3, 1) := by decide +kernel
theorem dL_law_827 : decode cL_law 827 = .ok (.iconst 2, 1) := by decide +kernel
theorem dL_law_828 : decode cL_law 828 = .ok (.iadd, 1) := by decide +kernel
theorem dL_law_829 : decode cL_law 829 = .ok (.iaload, 1) := by decide +kernel
theorem dL_law_830 : decode cL_law 830 = .ok (.aload_n 0, 1) := by decide +kernel
theorem dL_law_831 : decode cL_law 831 = .ok (.iload_n 3, 1) := by decide +kernel
theorem dL_law_832 : decode cL_law 832 = .ok (.iconst 3, 1) := by decide +kernel
theorem dL_law_833 : decode cL_law 833 = .ok (.iadd, 1) := by decide +kernel
theorem dL_law_834 : decode cL_law 834 = .ok (.iaload, 1) := by decide +kernel
theorem dL_law_835 : decode cL_law 835 = .ok (.invokevirtual 109, 3) := by decide +kernel
theorem dL_law_838 : decode cL_law 838 = .ok (.aload_n 2, 1) := by decide +kernel
theorem dL_law_839 : decode cL_law 839 = .ok (.aload_n 0, 1) := by decide +kernel
theorem dL_law_840 : decode cL_law 840 = .ok (.iload_n 3, 1) := by decide +kernel
theorem dL_law_841 : decode cL_law 841 = .ok (.iconst 1, 1) := by decide +kernel
theorem dL_law_842 : decode cL_law 842 = .ok (.iadd, 1) := by decide +kernel
theorem dL_law_843 : decode cL_law 843 = .ok (.iaload, 1) := by decide +kernel
theorem dL_law_844 : decode cL_law 844 = .ok (.aload_n 0, 1) := by decide +kernel
theorem dL_law_845 : decode cL_law 845 = .ok (.iload_n 3, 1) := by decide +kernel
theorem dL_law_846 : decode cL_law 846 = .ok (.iconst 2, 1) := by decide +kernel
theorem dL_law_847 : decode cL_law 847 = .ok (.iadd, 1) := by decide +kernel
theorem dL_law_848 : decode cL_law 848 = .ok (.iaload, 1) := by decide +kernel
theorem dL_law_849 : decode cL_law 849 = .ok (.aload_n 0, 1) := by decide +kernel
theorem dL_law_850 : decode cL_law 850 = .ok (.iload_n 3, 1) := by decide +kernel
theorem dL_law_851 : decode cL_law 851 = .ok (.iconst 3, 1) := by decide +kernel
theorem dL_law_852 : decode cL_law 852 = .ok (.iadd, 1) := by decide +kernel
theorem dL_law_853 : decode cL_law 853 = .ok (.iaload, 1) := by decide +kernel
theorem dL_law_854 : decode cL_law 854 = .ok (.invokevirtual 112, 3) := by decide +kernel
theorem dL_law_857 : decode cL_law 857 = .ok (.if_icmp .eq 273, 3) := by decide +kernel
theorem dL_law_860 : decode cL_law 860 = .ok (.iconst 0, 1) := by decide +kernel
theorem dL_law_861 : decode cL_law 861 = .ok (.ireturn, 1) := by decide +kernel
theorem dL_law_862 : decode cL_law 862 = .ok (.aload_n 1, 1) := by decide +kernel
theorem dL_law_863 : decode cL_law 863 = .ok (.aload_n 0, 1) := by decide +kernel
theorem dL_law_864 : decode cL_law 864 = .ok (.iload_n 3, 1) := by decide +kernel
theorem dL_law_865 : decode cL_law 865 = .ok (.iconst 1, 1) := by decide +kernel
theorem dL_law_866 : decode cL_law 866 = .ok (.iadd, 1) := by decide +kernel
theorem dL_law_867 : decode cL_law 867 = .ok (.iaload, 1) := by decide +kernel
theorem dL_law_868 : decode cL_law 868 = .ok (.aload_n 0, 1) := by decide +kernel
theorem dL_law_869 : decode cL_law 869 = .ok (.iload_n 3, 1) := by decide +kernel
theorem dL_law_870 : decode cL_law 870 = .ok (.iconst 2, 1) := by decide +kernel
theorem dL_law_871 : decode cL_law 871 = .ok (.iadd, 1) := by decide +kernel
theorem dL_law_872 : decode cL_law 872 = .ok (.iaload, 1) := by decide +kernel
theorem dL_law_873 : decode cL_law 873 = .ok (.aload_n 0, 1) := by decide +kernel
theorem dL_law_874 : decode cL_law 874 = .ok (.iload_n 3, 1) := by decide +kernel
theorem dL_law_875 : decode cL_law 875 = .ok (.iconst 3, 1) := by decide +kernel
theorem dL_law_876 : decode cL_law 876 = .ok (.iadd, 1) := by decide +kernel
theorem dL_law_877 : decode cL_law 877 = .ok (.iaload, 1) := by decide +kernel
theorem dL_law_878 : decode cL_law 878 = .ok (.invokevirtual 113, 3) := by decide +kernel
theorem dL_law_881 : decode cL_law 881 = .ok (.aload_n 2, 1) := by decide +kernel
theorem dL_law_882 : decode cL_law 882 = .ok (.aload_n 0, 1) := by decide +kernel
theorem dL_law_883 : decode cL_law 883 = .ok (.iload_n 3, 1) := by decide +kernel
theorem dL_law_884 : decode cL_law 884 = .ok (.iconst 1, 1) := by decide +kernel
theorem dL_law_885 : decode cL_law 885 = .ok (.iadd, 1) := by decide +kernel
theorem dL_law_886 : decode cL_law 886 = .ok (.iaload, 1) := by decide +kernel
theorem dL_law_887 : decode cL_law 887 = .ok (.aload_n 0, 1) := by decide +kernel
theorem dL_law_888 : decode cL_law 888 = .ok (.iload_n 3, 1) := by decide +kernel
theorem dL_law_889 : decode cL_law 889 = .ok (.iconst 2, 1) := by decide +kernel
theorem dL_law_890 : decode cL_law 890 = .ok (.iadd, 1) := by decide +kernel
theorem dL_law_891 : decode cL_law 891 = .ok (.iaload, 1) := by decide +kernel
theorem dL_law_892 : decode cL_law 892 = .ok (.aload_n 0, 1) := by decide +kernel
theorem dL_law_893 : decode cL_law 893 = .ok (.iload_n 3, 1) := by decide +kernel
theorem dL_law_894 : decode cL_law 894 = .ok (.iconst 3, 1) := by decide +kernel
theorem dL_law_895 : decode cL_law 895 = .ok (.iadd, 1) := by decide +kernel
theorem dL_law_896 : decode cL_law 896 = .ok (.iaload, 1) := by decide +kernel
theorem dL_law_897 : decode cL_law 897 = .ok (.invokevirtual 116, 3) := by decide +kernel
theorem dL_law_900 : decode cL_law 900 = .ok (.if_icmp .eq 230, 3) := by decide +kernel
theorem dL_law_903 : decode cL_law 903 = .ok (.iconst 0, 1) := by decide +kernel
theorem dL_law_904 : decode cL_law 904 = .ok (.ireturn, 1) := by decide +kernel
theorem dL_law_905 : decode cL_law 905 = .ok (.aload_n 1, 1) := by decide +kernel
theorem dL_law_906 : decode cL_law 906 = .ok (.invokevirtual 117, 3) := by decide +kernel
theorem dL_law_909 : decode cL_law 909 = .ok (.aload_n 2, 1) := by decide +kernel
theorem dL_law_910 : decode cL_law 910 = .ok (.invokevirtual 120, 3) := by decide +kernel
theorem dL_law_913 : decode cL_law 913 = .ok (.if_icmp .eq 217, 3) := by decide +kernel
theorem dL_law_916 : decode cL_law 916 = .ok (.iconst 0, 1) := by decide +kernel
theorem dL_law_917 : decode cL_law 917 = .ok (.ireturn, 1) := by decide +kernel
theorem dL_law_918 : decode cL_law 918 = .ok (.aload_n 1, 1) := by decide +kernel
theorem dL_law_919 : decode cL_law 919 = .ok (.aload_n 0, 1) := by decide +kernel
theorem dL_law_920 : decode cL_law 920 = .ok (.iload_n 3, 1) := by decide +kernel
theorem dL_law_921 : decode cL_law 921 = .ok (.iconst 1, 1) := by decide +kernel
theorem dL_law_922 : decode cL_law 922 = .ok (.iadd, 1) := by decide +kernel
theorem dL_law_923 : decode cL_law 923 = .ok (.iaload, 1) := by decide +kernel
theorem dL_law_924 : decode cL_law 924 = .ok (.invokevirtual 121, 3) := by decide +kernel
theorem dL_law_927 : decode cL_law 927 = .ok (.aload_n 2, 1) := by decide +kernel
theorem dL_law_928 : decode cL_law 928 = .ok (.aload_n 0, 1) := by decide +kernel
theorem dL_law_929 : decode cL_law 929 = .ok (.iload_n 3, 1) := by decide +kernel
theorem dL_law_930 : decode cL_law 930 = .ok (.iconst 1, 1) := by decide +kernel
theorem dL_law_931 : decode cL_law 931 = .ok (.iadd, 1) := by decide +kernel
theorem dL_law_932 : decode cL_law 932 = .ok (.iaload, 1) := by decide +kernel
theorem dL_law_933 : decode cL_law 933 = .ok (.invokevirtual 124, 3) := by decide +kernel
theorem dL_law_936 : decode cL_law 936 = .ok (.if_icmp .eq 194, 3) := by decide +kernel
theorem dL_law_939 : decode cL_law 939 = .ok (.iconst 0, 1) := by decide +kernel
theorem dL_law_940 : decode cL_law 940 = .ok (.ireturn, 1) := by decide +kernel
theorem dL_law_941 : decode cL_law 941 = .ok (.aload_n 1, 1) := by decide +kernel
theorem dL_law_942 : decode cL_law 942 = .ok (.aload_n 0, 1) := by decide +kernel
theorem dL_law_943 : decode cL_law 943 = .ok (.iload_n 3, 1) := by decide +kernel
theorem dL_law_944 : decode cL_law 944 = .ok (.iconst 1, 1) := by decide +kernel
theorem dL_law_945 : decode cL_law 945 = .ok (.iadd, 1) := by decide +kernel
theorem dL_law_946 : decode cL_law 946 = .ok (.iaload, 1) := by decide +kernel
theorem dL_law_947 : decode cL_law 947 = .ok (.aload_n 0, 1) := by decide +kernel
theorem dL_law_948 : decode cL_law 948 = .ok (.iload_n 3, 1) := by decide +kernel
theorem dL_law_949 : decode cL_law 949 = .ok (.iconst 2, 1) := by decide +kernel
theorem dL_law_950 : decode cL_law 950 = .ok (.iadd, 1) := by decide +kernel
theorem dL_law_951 : decode cL_law 951 = .ok (.iaload, 1) := by decide +kernel
theorem dL_law_952 : decode cL_law 952 = .ok (.invokevirtual 125, 3) := by decide +kernel
theorem dL_law_955 : decode cL_law 955 = .ok (.aload_n 2, 1) := by decide +kernel
theorem dL_law_956 : decode cL_law 956 = .ok (.aload_n 0, 1) := by decide +kernel
theorem dL_law_957 : decode cL_law 957 = .ok (.iload_n 3, 1) := by decide +kernel
theorem dL_law_958 : decode cL_law 958 = .ok (.iconst 1, 1) := by decide +kernel
theorem dL_law_959 : decode cL_law 959 = .ok (.iadd, 1) := by decide +kernel
theorem dL_law_960 : decode cL_law 960 = .ok (.iaload, 1) := by decide +kernel
theorem dL_law_961 : decode cL_law 961 = .ok (.aload_n 0, 1) := by decide +kernel
theorem dL_law_962 : decode cL_law 962 = .ok (.iload_n 3, 1) := by decide +kernel
theorem dL_law_963 : decode cL_law 963 = .ok (.iconst 2, 1) := by decide +kernel
theorem dL_law_964 : decode cL_law 964 = .ok (.iadd, 1) := by decide +kernel
theorem dL_law_965 : decode cL_law 965 = .ok (.iaload, 1) := by decide +kernel
theorem dL_law_966 : decode cL_law 966 = .ok (.invokevirtual 128, 3) := by decide +kernel
theorem dL_law_969 : decode cL_law 969 = .ok (.if_icmp .eq 161, 3) := by decide +kernel
theorem dL_law_972 : decode cL_law 972 = .ok (.iconst 0, 1) := by decide +kernel
theorem dL_law_973 : decode cL_law 973 = .ok (.ireturn, 1) := by decide +kernel
theorem dL_law_974 : decode cL_law 974 = .ok (.aload_n 1, 1) := by decide +kernel
theorem dL_law_975 : decode cL_law 975 = .ok (.aload_n 0, 1) := by decide +kernel
theorem dL_law_976 : decode cL_law 976 = .ok (.iload_n 3, 1) := by decide +kernel
theorem dL_law_977 : decode cL_law 977 = .ok (.iconst 1, 1) := by decide +kernel
theorem dL_law_978 : decode cL_law 978 = .ok (.iadd, 1) := by decide +kernel
theorem dL_law_979 : decode cL_law 979 = .ok (.iaload, 1) := by decide +kernel
theorem dL_law_980 : decode cL_law 980 = .ok (.i2l, 1) := by decide +kernel
theorem dL_law_981 : decode cL_law 981 = .ok (.bipush 32, 2) := by decide +kernel
theorem dL_law_983 : decode cL_law 983 = .ok (.lshl, 1) := by decide +kernel
theorem dL_law_984 : decode cL_law 984 = .ok (.aload_n 0, 1) := by decide +kernel
theorem dL_law_985 : decode cL_law 985 = .ok (.iload_n 3, 1) := by decide +kernel
theorem dL_law_986 : decode cL_law 986 = .ok (.iconst 2, 1) := by decide +kernel
theorem dL_law_987 : decode cL_law 987 = .ok (.iadd, 1) := by decide +kernel
theorem dL_law_988 : decode cL_law 988 = .ok (.iaload, 1) := by decide +kernel
theorem dL_law_989 : decode cL_law 989 = .ok (.i2l, 1) := by decide +kernel
theorem dL_law_990 : decode cL_law 990 = .ok (.ldc2_w 129, 3) := by decide +kernel
theorem dL_law_993 : decode cL_law 993 = .ok (.land, 1) := by decide +kernel
theorem dL_law_994 : decode cL_law 994 = .ok (.lor, 1) := by decide +kernel
theorem dL_law_995 : decode cL_law 995 = .ok (.aload_n 0, 1) := by decide +kernel
theorem dL_law_996 : decode cL_law 996 = .ok (.iload_n 3, 1) := by decide +kernel
theorem dL_law_997 : decode cL_law 997 = .ok (.iconst 3, 1) := by decide +kernel
theorem dL_law_998 : decode cL_law 998 = .ok (.iadd, 1) := by decide +kernel
theorem dL_law_999 : decode cL_law 999 = .ok (.iaload, 1) := by decide +kernel
theorem dL_law_1000 : decode cL_law 1000 = .ok (.i2l, 1) := by decide +kernel
theorem dL_law_1001 : decode cL_law 1001 = .ok (.bipush 32, 2) := by decide +kernel
theorem dL_law_1003 : decode cL_law 1003 = .ok (.lshl, 1) := by decide +kernel
theorem dL_law_1004 : decode cL_law 1004 = .ok (.aload_n 0, 1) := by decide +kernel
theorem dL_law_1005 : decode cL_law 1005 = .ok (.iload_n 3, 1) := by decide +kernel
theorem dL_law_1006 : decode cL_law 1006 = .ok (.iconst 4, 1) := by decide +kernel
theorem dL_law_1007 : decode cL_law 1007 = .ok (.iadd, 1) := by decide +kernel
theorem dL_law_1008 : decode cL_law 1008 = .ok (.iaload, 1) := by decide +kernel
theorem dL_law_1009 : decode cL_law 1009 = .ok (.i2l, 1) := by decide +kernel
theorem dL_law_1010 : decode cL_law 1010 = .ok (.ldc2_w 129, 3) := by decide +kernel
theorem dL_law_1013 : decode cL_law 1013 = .ok (.land, 1) := by decide +kernel
theorem dL_law_1014 : decode cL_law 1014 = .ok (.lor, 1) := by decide +kernel
theorem dL_law_1015 : decode cL_law 1015 = .ok (.invokevirtual 131, 3) := by decide +kernel
theorem dL_law_1018 : decode cL_law 1018 = .ok (.aload_n 2, 1) := by decide +kernel
theorem dL_law_1019 : decode cL_law 1019 = .ok (.aload_n 0, 1) := by decide +kernel
theorem dL_law_1020 : decode cL_law 1020 = .ok (.iload_n 3, 1) := by decide +kernel
theorem dL_law_1021 : decode cL_law 1021 = .ok (.iconst 1, 1) := by decide +kernel
theorem dL_law_1022 : decode cL_law 1022 = .ok (.iadd, 1) := by decide +kernel
theorem dL_law_1023 : decode cL_law 1023 = .ok (.iaload, 1) := by decide +kernel
theorem dL_law_1024 : decode cL_law 1024 = .ok (.i2l, 1) := by decide +kernel
theorem dL_law_1025 : decode cL_law 1025 = .ok (.bipush 32, 2) := by decide +kernel
theorem dL_law_1027 : decode cL_law 1027 = .ok (.lshl, 1) := by decide +kernel
theorem dL_law_1028 : decode cL_law 1028 = .ok (.aload_n 0, 1) := by decide +kernel
theorem dL_law_1029 : decode cL_law 1029 = .ok (.iload_n 3, 1) := by decide +kernel
theorem dL_law_1030 : decode cL_law 1030 = .ok (.iconst 2, 1) := by decide +kernel
theorem dL_law_1031 : decode cL_law 1031 = .ok (.iadd, 1) := by decide +kernel
theorem dL_law_1032 : decode cL_law 1032 = .ok (.iaload, 1) := by decide +kernel
theorem dL_law_1033 : decode cL_law 1033 = .ok (.i2l, 1) := by decide +kernel
theorem dL_law_1034 : decode cL_law 1034 = .ok (.ldc2_w 129, 3) := by decide +kernel
theorem dL_law_1037 : decode cL_law 1037 = .ok (.land, 1) := by decide +kernel
theorem dL_law_1038 : decode cL_law 1038 = .ok (.lor, 1) := by decide +kernel
theorem dL_law_1039 : decode cL_law 1039 = .ok (.aload_n 0, 1) := by decide +kernel
theorem dL_law_1040 : decode cL_law 1040 = .ok (.iload_n 3, 1) := by decide +kernel
theorem dL_law_1041 : decode cL_law 1041 = .ok (.iconst 3, 1) := by decide +kernel
theorem dL_law_1042 : decode cL_law 1042 = .ok (.iadd, 1) := by decide +kernel
theorem dL_law_1043 : decode cL_law 1043 = .ok (.iaload, 1) := by decide +kernel
theorem dL_law_1044 : decode cL_law 1044 = .ok (.i2l, 1) := by decide +kernel
theorem dL_law_1045 : decode cL_law 1045 = .ok (.bipush 32, 2) := by decide +kernel
theorem dL_law_1047 : decode cL_law 1047 = .ok (.lshl, 1) := by decide +kernel
theorem dL_law_1048 : decode cL_law 1048 = .ok (.aload_n 0, 1) := by decide +kernel
theorem dL_law_1049 : decode cL_law 1049 = .ok (.iload_n 3, 1) := by decide +kernel
theorem dL_law_1050 : decode cL_law 1050 = .ok (.iconst 4, 1) := by decide +kernel
theorem dL_law_1051 : decode cL_law 1051 = .ok (.iadd, 1) := by decide +kernel
theorem dL_law_1052 : decode cL_law 1052 = .ok (.iaload, 1) := by decide +kernel
theorem dL_law_1053 : decode cL_law 1053 = .ok (.i2l, 1) := by decide +kernel
theorem dL_law_1054 : decode cL_law 1054 = .ok (.ldc2_w 129, 3) := by decide +kernel
theorem dL_law_1057 : decode cL_law 1057 = .ok (.land, 1) := by decide +kernel
theorem dL_law_1058 : decode cL_law 1058 = .ok (.lor, 1) := by decide +kernel
theorem dL_law_1059 : decode cL_law 1059 = .ok (.invokevirtual 135, 3) := by decide +kernel
theorem dL_law_1062 : decode cL_law 1062 = .ok (.if_icmp .eq 68, 3) := by decide +kernel
theorem dL_law_1065 : decode cL_law 1065 = .ok (.iconst 0, 1) := by decide +kernel
theorem dL_law_1066 : decode cL_law 1066 = .ok (.ireturn, 1) := by decide +kernel
theorem dL_law_1067 : decode cL_law 1067 = .ok (.aload_n 1, 1) := by decide +kernel
theorem dL_law_1068 : decode cL_law 1068 = .ok (.invokevirtual 136, 3) := by decide +kernel
theorem dL_law_1071 : decode cL_law 1071 = .ok (.aload_n 2, 1) := by decide +kernel
theorem dL_law_1072 : decode cL_law 1072 = .ok (.invokevirtual 140, 3) := by decide +kernel
theorem dL_law_1075 : decode cL_law 1075 = .ok (.lcmp, 1) := by decide +kernel
theorem dL_law_1076 : decode cL_law 1076 = .ok (.ifCond .eq 54, 3) := by decide +kernel
theorem dL_law_1079 : decode cL_law 1079 = .ok (.iconst 0, 1) := by decide +kernel
theorem dL_law_1080 : decode cL_law 1080 = .ok (.ireturn, 1) := by decide +kernel
theorem dL_law_1081 : decode cL_law 1081 = .ok (.aload_n 1, 1) := by decide +kernel
theorem dL_law_1082 : decode cL_law 1082 = .ok (.invokevirtual 141, 3) := by decide +kernel
theorem dL_law_1085 : decode cL_law 1085 = .ok (.aload_n 2, 1) := by decide +kernel
theorem dL_law_1086 : decode cL_law 1086 = .ok (.invokevirtual 144, 3) := by decide +kernel
theorem dL_law_1089 : decode cL_law 1089 = .ok (.if_icmp .eq 41, 3) := by decide +kernel
theorem dL_law_1092 : decode cL_law 1092 = .ok (.iconst 0, 1) := by decide +kernel
theorem dL_law_1093 : decode cL_law 1093 = .ok (.ireturn, 1) := by decide +kernel
theorem dL_law_1094 : decode cL_law 1094 = .ok (.aload_n 1, 1) := by decide +kernel
theorem dL_law_1095 : decode cL_law 1095 = .ok (.invokevirtual 145, 3) := by decide +kernel
theorem dL_law_1098 : decode cL_law 1098 = .ok (.aload_n 2, 1) := by decide +kernel
theorem dL_law_1099 : decode cL_law 1099 = .ok (.invokevirtual 148, 3) := by decide +kernel
theorem dL_law_1102 : decode cL_law 1102 = .ok (.if_icmp .eq 28, 3) := by decide +kernel
theorem dL_law_1105 : decode cL_law 1105 = .ok (.iconst 0, 1) := by decide +kernel
theorem dL_law_1106 : decode cL_law 1106 = .ok (.ireturn, 1) := by decide +kernel
theorem dL_law_1107 : decode cL_law 1107 = .ok (.aload_n 1, 1) := by decide +kernel
theorem dL_law_1108 : decode cL_law 1108 = .ok (.aload_n 0, 1) := by decide +kernel
theorem dL_law_1109 : decode cL_law 1109 = .ok (.iload_n 3, 1) := by decide +kernel
theorem dL_law_1110 : decode cL_law 1110 = .ok (.iconst 1, 1) := by decide +kernel
theorem dL_law_1111 : decode cL_law 1111 = .ok (.iadd, 1) := by decide +kernel
theorem dL_law_1112 : decode cL_law 1112 = .ok (.iaload, 1) := by decide +kernel
theorem dL_law_1113 : decode cL_law 1113 = .ok (.invokevirtual 149, 3) := by decide +kernel
theorem dL_law_1116 : decode cL_law 1116 = .ok (.aload_n 2, 1) := by decide +kernel
theorem dL_law_1117 : decode cL_law 1117 = .ok (.aload_n 0, 1) := by decide +kernel
theorem dL_law_1118 : decode cL_law 1118 = .ok (.iload_n 3, 1) := by decide +kernel
theorem dL_law_1119 : decode cL_law 1119 = .ok (.iconst 1, 1) := by decide +kernel
theorem dL_law_1120 : decode cL_law 1120 = .ok (.iadd, 1) := by decide +kernel
theorem dL_law_1121 : decode cL_law 1121 = .ok (.iaload, 1) := by decide +kernel
theorem dL_law_1122 : decode cL_law 1122 = .ok (.invokevirtual 152, 3) := by decide +kernel
theorem dL_law_1125 : decode cL_law 1125 = .ok (.if_icmp .eq 5, 3) := by decide +kernel
theorem dL_law_1128 : decode cL_law 1128 = .ok (.iconst 0, 1) := by decide +kernel
theorem dL_law_1129 : decode cL_law 1129 = .ok (.ireturn, 1) := by decide +kernel
theorem dL_law_1130 : decode cL_law 1130 = .ok (.iinc 3 5, 3) := by decide +kernel
theorem dL_law_1133 : decode cL_law 1133 = .ok (.goto (-1115), 3) := by decide +kernel
theorem dL_law_1136 : decode cL_law 1136 = .ok (.iconst 1, 1) := by decide +kernel
theorem dL_law_1137 : decode cL_law 1137 = .ok (.ireturn, 1) := by decide +kernel
end
section
/-! THE PURE JUDGEMENT: a world of fixed shape (19 objects and their arrays), its numbers a function; a method's walk speaks of numbers alone -/
abbrev lk_V : Type := Int32 ⊕ (Int64 ⊕ (Nat × Nat))
abbrev lk_vi (x : Int32) : lk_V := .inl x
abbrev lk_vl (x : Int64) : lk_V := .inr (.inl x)
abbrev lk_vr (o f : Nat) : lk_V := .inr (.inr (o, f))
abbrev lk_N : Type := Nat → Nat → Nat → Int32
abbrev lk_T : Type := Nat → Nat → Int64
abbrev lk_Q : Type := Option lk_V → lk_N → lk_T → Prop
abbrev lk_G : Type := (Nat → Nat → Nat) × va_G × ClassId × ClassId
def lk_c (γ : Nat → Nat → Nat) : lk_V → Value
  | .inl x => .int x
  | .inr (.inl x) => .long x
  | .inr (.inr q) => .ref (γ q.1 q.2)
def lk_cat : lk_V → Nat
  | .inr (.inl _) => 2
  | _ => 1
theorem lk_c_cat (γ : Nat → Nat → Nat) (v : lk_V) : (lk_c γ v).category = lk_cat v := by
  rcases v with x | x | q <;> rfl
/-- which class each object is of -/
def lk_kos : List Nat := [8, 9, 0, 5, 1, 0, 5, 1, 0, 5, 1, 2, 2, 2, 6, 3, 3, 4, 7]
def lk_ko (o : Nat) : Nat := lk_kos.getD o 99
/-- the fields of each class: 0 int, 1 long, 2 ints, 3 booleans, 4 object, 5 boolean; how long a row is -/
def lk_fks : List (List (Nat × Nat)) :=
  [[(0, 0), (0, 0), (2, 6), (2, 6), (2, 6), (3, 6), (2, 7), (2, 7), (2, 7), (2, 7), (4, 0), (4, 0), (5, 0)],
   [(5, 0), (0, 0), (0, 0), (0, 0), (0, 0)],
   [(2, 22), (2, 22), (2, 22), (3, 22), (2, 22), (0, 0)],
   [(2, 22), (0, 0)],
   [(0, 0), (0, 0), (0, 0)],
   [(2, 118)],
   [(2, 60), (0, 0), (0, 0), (0, 0), (5, 0), (0, 0), (0, 0), (0, 0)],
   [(0, 0), (0, 0), (0, 0), (0, 0), (0, 0)],
   [(4, 0), (4, 0), (4, 0), (1, 0), (4, 0), (4, 0), (1, 0), (5, 0), (4, 0), (4, 0), (4, 0), (4, 0), (4, 0), (4, 0)],
   [(2, 235), (2, 235), (2, 235), (5, 0), (1, 0), (1, 0), (0, 0), (0, 0), (0, 0), (0, 0), (5, 0), (2, 4), (0, 0), (2, 60), (0, 0), (0, 0), (2, 60), (0, 0), (0, 0), (0, 0), (2, 12), (2, 12), (0, 0), (0, 0), (0, 0), (0, 0), (0, 0), (2, 12), (2, 12)]]
def lk_fk (ci f : Nat) : Nat × Nat := (lk_fks.getD ci []).getD f (9, 0)
def lk_nf (ci : Nat) : Nat := (lk_fks.getD ci []).length
/-- the object that a field of an object holds -/
def lk_fo (o f : Nat) : Nat := if o = 0 then [2, 11, 14, 0, 5, 13, 0, 0, 8, 12, 15, 16, 17, 18].getD f 0 else if f = 10 then o + 1 else o + 2
def lk_rows (ci : Nat) : List Nat := (List.range (lk_nf ci)).filter (fun f => (lk_fk ci f).1 == 2 || (lk_fk ci f).1 == 3)
def lk_cells : List (Nat × Nat) := (List.range 19).flatMap fun o => (o, 0) :: (lk_rows (lk_ko o)).map (fun f => (o, f + 1))
def lk_fv (γ : Nat → Nat → Nat) (σ : lk_N) (τ : lk_T) (o f : Nat) : Value :=
  if (lk_fk (lk_ko o) f).1 = 0 ∨ (lk_fk (lk_ko o) f).1 = 5 then .int (σ o f 0) else if (lk_fk (lk_ko o) f).1 = 1 then .long (τ o f) else if (lk_fk (lk_ko o) f).1 = 4 then .ref (γ (lk_fo o f) 0) else .ref (γ o (f + 1))
def lk_e (X : lk_G) (σ : lk_N) (τ : lk_T) (q : Nat × Nat) : va_E := match q.2 with
  | 0 => .inr (lk_ko q.1, (List.range (lk_nf (lk_ko q.1))).map (lk_fv X.1 σ τ q.1))
  | f + 1 => .inl (if (lk_fk (lk_ko q.1) f).1 = 3 then X.2.2.2 else X.2.2.1, (lk_fk (lk_ko q.1) f).2, .inl (σ q.1 f))
def lk_ws (X : lk_G) (σ : lk_N) (τ : lk_T) : va_W := lk_cells.map (fun q => (X.1 q.1 q.2, lk_e X σ τ q))
def lk_up (σ : lk_N) (o f i : Nat) (v : Int32) : lk_N := fun o' f' i' => if o' = o ∧ f' = f ∧ i' = i then v else σ o' f' i'
def lk_ut (τ : lk_T) (o f : Nat) (v : Int64) : lk_T := fun o' f' => if o' = o ∧ f' = f then v else τ o' f'
def lk_rm (d : Nat) : Room := { frames := d, cells := 0, slots := 0, locals := 40 * d }
def lk_wd (M : lk_M) : List Cond := .code M.1 M.2.1 M.2.2.1 M.2.2.2 :: lk_AW
def lk_A (X : lk_G) : Nat → Prop := fun a => ∃ q ∈ lk_cells, X.1 q.1 q.2 = a
def lk_tys (X : lk_G) : List (ClassId × FieldType) := [(X.2.2.1, .int), (X.2.2.2, .boolean)]
def lk_H (X : lk_G) (σ : lk_N) (τ : lk_T) (U : State) : Prop := va_P X.2.1 vwCl (lk_ws X σ τ) U.heap ∧ va_K X.2.1 vwCl (lk_tys X) U ∧ va_D (lk_A X) (lk_ws X σ τ)
def lk_Qc (X : lk_G) (Q : lk_Q) : Array Value → State → Outcome → State → Prop := fun _ st oc t => (∃ (r : Option lk_V) (σ : lk_N) (τ : lk_T), oc = .returned (r.map (lk_c X.1)) ∧ Q r σ τ ∧ lk_H X σ τ t) ∧ va_F (lk_A X) st t
/-- a method's contract: out of these numbers, with these arguments, within d frames, it comes back with Q -/
def lk_Mt (l : Launch) (X : lk_G) (M : lk_M) (d : Nat) (args : List lk_V) (σ : lk_N) (τ : lk_T) (Q : lk_Q) : Prop :=
  Met l M.1 (lk_wd M) (lk_rm d) (va_Pc (args.map (lk_c X.1)) (lk_H X σ τ)) (lk_Qc X Q) 0 0 (lk_A X)
def lk_C (X : lk_G) (M : lk_M) (p : Program) (s : State) (m : MethodId) (args : Array Value) (meth : Method) (c : Code) : Prop :=
  p.tables.exec = Jvm.exec ∧ c.code = M.2.1 ∧ meth.sig.returnType = M.2.2.2 ∧ c.maxLocals = M.2.2.1 ∧ s.vm.findClass M.1.cls = some m.cls ∧ (∀ w ∈ lk_wd M, w.before args s = true) ∧ meth.locks = false ∧ va_K X.2.1 vwCl (lk_tys X) s
/-- at pc, with these locals and this stack and these numbers, the method comes back with Q -/
def lk_W (l : Launch) (X : lk_G) (M : lk_M) (d pc : Nat) (L : List (Nat × lk_V)) (S : List lk_V) (σ : lk_N) (τ : lk_T) (Q : lk_Q) : Prop :=
  ∀ (p : Program) (e : Env) (s : State) (m : MethodId) (args : Array Value) (below : List Frame) (meth : Method) (c : Code) (H : Heap) (locs : List Loc) (ls : Array Slot),
    lk_C X M p s m args meth c → va_P X.2.1 vwCl (lk_ws X σ τ) H → va_D (lk_A X) (lk_ws X σ τ) → va_S (lk_A X) s.heap H locs → lv_has ls M.2.2.1 (L.map (fun q => (q.1, lk_c X.1 q.2))) →
    W p l e (lk_rm d) s m args below meth c H locs 0 0 (MQ below (lk_Qc X Q) args s 0 0 (lk_A X)) (F0 m pc ls (S.map (lk_c X.1)))
/-! the world's places -/
theorem lk_cells_nodup : lk_cells.Nodup := by decide +kernel
theorem lk_at {X : lk_G} {σ : lk_N} {τ : lk_T} {o f : Nat} (h : (o, f) ∈ lk_cells) : ∃ k : Nat, lk_cells[k]? = some (o, f) ∧ (lk_ws X σ τ)[k]? = some (X.1 o f, lk_e X σ τ (o, f)) := by
  obtain ⟨k, hk⟩ := List.getElem?_of_mem h
  exact ⟨k, hk, by simp [lk_ws, hk]⟩
theorem lk_nodup_inj {α : Type} : ∀ {l : List α}, l.Nodup → ∀ {i j : Nat} {a : α}, l[i]? = some a → l[j]? = some a → i = j
  | [], _, _, _, _, h, _ => by simp at h
  | b :: t, hn, i, j, a, h1, h2 => by
    have hb := (List.nodup_cons.mp hn).1
    have ht := (List.nodup_cons.mp hn).2
    cases i with
    | zero =>
      cases j with
      | zero => rfl
      | succ j =>
        rw [List.getElem?_cons_zero] at h1
        rw [List.getElem?_cons_succ] at h2
        cases h1
        exact absurd (List.mem_of_getElem? h2) hb
    | succ i =>
      rw [List.getElem?_cons_succ] at h1
      cases j with
      | zero =>
        rw [List.getElem?_cons_zero] at h2
        cases h2
        exact absurd (List.mem_of_getElem? h1) hb
      | succ j =>
        rw [List.getElem?_cons_succ] at h2
        rw [lk_nodup_inj ht h1 h2]
theorem lk_set {X : lk_G} {σ σ' : lk_N} {τ τ' : lk_T} {o f k : Nat} (hk : lk_cells[k]? = some (o, f)) (h : ∀ q ∈ lk_cells, q ≠ (o, f) → lk_e X σ' τ' q = lk_e X σ τ q) : (lk_ws X σ τ).set k (X.1 o f, lk_e X σ' τ' (o, f)) = lk_ws X σ' τ' := by
  have hl := (List.getElem?_eq_some_iff.mp hk).1
  apply List.ext_getElem?
  intro j
  by_cases hj : j = k
  · subst hj
    rw [List.getElem?_set_self (by simpa [lk_ws] using hl)]
    simp [lk_ws, hk]
  · rw [List.getElem?_set_ne (fun z => hj z.symm)]
    simp only [lk_ws, List.getElem?_map]
    cases hq : lk_cells[j]? with
    | none => rfl
    | some q =>
      have hne : q ≠ (o, f) := by
        intro z
        subst z
        exact hj (lk_nodup_inj lk_cells_nodup hq hk)
      simp [h q (List.mem_of_getElem? hq) hne]
theorem lk_ko_lt {o ci : Nat} (h : lk_ko o = ci) (hc : ci < 10) : o < 19 := by
  rcases Nat.lt_or_ge o 19 with q | q
  · exact q
  · have : lk_ko o = 99 := by
      unfold lk_ko
      rw [List.getD_eq_getElem?_getD, List.getElem?_eq_none (show lk_kos.length ≤ o from q)]
      rfl
    omega
theorem lk_mem0 {o : Nat} (h : o < 19) : (o, 0) ∈ lk_cells := by
  have : ∀ o, o < 19 → (o, 0) ∈ lk_cells := by decide +kernel
  exact this o h
theorem lk_memR {o f : Nat} (h : o < 19) (hk : (lk_fk (lk_ko o) f).1 = 2 ∨ (lk_fk (lk_ko o) f).1 = 3) : (o, f + 1) ∈ lk_cells := by
  have hf : f < lk_nf (lk_ko o) := by
    rcases Nat.lt_or_ge f (lk_nf (lk_ko o)) with q | q
    · exact q
    · have : lk_fk (lk_ko o) f = (9, 0) := by
        unfold lk_fk
        rw [List.getD_eq_getElem?_getD, List.getElem?_eq_none q]
        rfl
      rw [this] at hk
      simp at hk
  unfold lk_cells
  refine List.mem_flatMap.mpr ⟨o, List.mem_range.mpr h, List.mem_cons_of_mem _ (List.mem_map.mpr ⟨f, ?_, rfl⟩)⟩
  unfold lk_rows
  refine List.mem_filter.mpr ⟨List.mem_range.mpr hf, ?_⟩
  rcases hk with q | q <;> simp [q]
theorem lk_mem_kind {o f : Nat} (h : (o, f + 1) ∈ lk_cells) : (lk_fk (lk_ko o) f).1 = 2 ∨ (lk_fk (lk_ko o) f).1 = 3 := by
  unfold lk_cells at h
  obtain ⟨o2, -, h2⟩ := List.mem_flatMap.mp h
  rcases List.mem_cons.mp h2 with h3 | h3
  · cases h3
  · obtain ⟨f2, h4, h5⟩ := List.mem_map.mp h3
    cases h5
    have h6 := (List.mem_filter.mp h4).2
    simpa using h6
theorem lk_D_any {X : lk_G} {σ σ' : lk_N} {τ τ' : lk_T} {A : Nat → Prop} (h : va_D A (lk_ws X σ τ)) : va_D A (lk_ws X σ' τ') := by
  have key : ∀ (k : Nat) (q : Nat × va_E), (lk_ws X σ' τ')[k]? = some q → ∃ e, (lk_ws X σ τ)[k]? = some (q.1, e) := by
    intro k q hk
    simp only [lk_ws, List.getElem?_map] at hk ⊢
    cases hc : lk_cells[k]? with
    | none => rw [hc] at hk; cases hk
    | some z => rw [hc] at hk; cases hk; exact ⟨_, rfl⟩
  refine ⟨fun i j p q hi hj hpq => ?_, fun k q hk => ?_⟩
  · obtain ⟨e1, h1⟩ := key i p hi
    obtain ⟨e2, h2⟩ := key j q hj
    exact h.1 i j _ _ h1 h2 hpq
  · obtain ⟨e1, h1⟩ := key k q hk
    exact h.2 k (q.1, e1) h1
theorem lk_up_eq (σ : lk_N) (o f i : Nat) (v : Int32) : lk_up σ o f i v o f i = v := by simp [lk_up]
theorem lk_up_ne {σ : lk_N} {o f i : Nat} {v : Int32} {o' f' i' : Nat} (h : ¬ (o' = o ∧ f' = f ∧ i' = i)) : lk_up σ o f i v o' f' i' = σ o' f' i' := by simp [lk_up, h]
theorem lk_ut_eq (τ : lk_T) (o f : Nat) (v : Int64) : lk_ut τ o f v o f = v := by simp [lk_ut]
theorem lk_ut_ne {τ : lk_T} {o f : Nat} {v : Int64} {o' f' : Nat} (h : ¬ (o' = o ∧ f' = f)) : lk_ut τ o f v o' f' = τ o' f' := by simp [lk_ut, h]
/-- a number field of an object put: what its cell becomes, and no other -/
theorem lk_e_putI {X : lk_G} {σ : lk_N} {τ : lk_T} {o f : Nat} {v : Int32} (hk : (lk_fk (lk_ko o) f).1 = 0 ∨ (lk_fk (lk_ko o) f).1 = 5) (hf : f < lk_nf (lk_ko o)) :
    (Sum.inr (lk_ko o, ((List.range (lk_nf (lk_ko o))).map (lk_fv X.1 σ τ o)).set f (.int v)) : va_E) = lk_e X (lk_up σ o f 0 v) τ (o, 0) ∧ ∀ q ∈ lk_cells, q ≠ (o, 0) → lk_e X (lk_up σ o f 0 v) τ q = lk_e X σ τ q := by
  refine ⟨?_, ?_⟩
  · show Sum.inr _ = Sum.inr _
    congr 2
    apply List.ext_getElem?
    intro j
    by_cases hj : j = f
    · subst hj
      rw [List.getElem?_set_self (by simpa using hf)]
      simp [List.getElem?_range hf, lk_fv, hk, lk_up]
    · rw [List.getElem?_set_ne (fun z => hj z.symm)]
      simp only [List.getElem?_map]
      rcases Nat.lt_or_ge j (lk_nf (lk_ko o)) with q | q
      · rw [List.getElem?_range q]
        simp [lk_fv, lk_up, hj]
      · rw [List.getElem?_eq_none (by simpa using q)]
        rfl
  · rintro ⟨o', f'⟩ hmem hne
    cases f' with
    | zero =>
      have ho : o' ≠ o := fun z => hne (by rw [z])
      show Sum.inr _ = Sum.inr _
      congr 2
      apply List.map_congr_left
      intro j _
      simp [lk_fv, lk_up, ho]
    | succ f' =>
      show Sum.inl _ = Sum.inl _
      congr 3
      congr 1
      funext i
      refine lk_up_ne ?_
      rintro ⟨h1, h2, h3⟩
      have hm := lk_mem_kind hmem
      have h1' : o' = o := h1
      rw [h1', h2] at hm
      rcases hk with a | a <;> rcases hm with b | b <;> rw [a] at b <;> cases b
/-- a long field of an object put -/
theorem lk_e_putL {X : lk_G} {σ : lk_N} {τ : lk_T} {o f : Nat} {v : Int64} (hk : (lk_fk (lk_ko o) f).1 = 1) (hf : f < lk_nf (lk_ko o)) :
    (Sum.inr (lk_ko o, ((List.range (lk_nf (lk_ko o))).map (lk_fv X.1 σ τ o)).set f (.long v)) : va_E) = lk_e X σ (lk_ut τ o f v) (o, 0) ∧ ∀ q ∈ lk_cells, q ≠ (o, 0) → lk_e X σ (lk_ut τ o f v) q = lk_e X σ τ q := by
  refine ⟨?_, ?_⟩
  · show Sum.inr _ = Sum.inr _
    congr 2
    apply List.ext_getElem?
    intro j
    by_cases hj : j = f
    · subst hj
      rw [List.getElem?_set_self (by simpa using hf)]
      simp [List.getElem?_range hf, lk_fv, hk, lk_ut]
    · rw [List.getElem?_set_ne (fun z => hj z.symm)]
      simp only [List.getElem?_map]
      rcases Nat.lt_or_ge j (lk_nf (lk_ko o)) with q | q
      · rw [List.getElem?_range q]
        simp [lk_fv, lk_ut, hj]
      · rw [List.getElem?_eq_none (by simpa using q)]
        rfl
  · rintro ⟨o', f'⟩ hmem hne
    cases f' with
    | zero =>
      have ho : o' ≠ o := fun z => hne (by rw [z])
      show Sum.inr _ = Sum.inr _
      congr 2
      apply List.map_congr_left
      intro j _
      simp [lk_fv, lk_ut, ho]
    | succ f' => rfl
/-- a row of numbers changed: what its cell becomes, and no other -/
theorem lk_e_row {X : lk_G} {σ : lk_N} {τ : lk_T} {o f : Nat} {g : Nat → Int32} {σ' : lk_N} (hσ : ∀ o' f' i', σ' o' f' i' = if o' = o ∧ f' = f then g i' else σ o' f' i') (hk : (lk_fk (lk_ko o) f).1 = 2 ∨ (lk_fk (lk_ko o) f).1 = 3) :
    (Sum.inl (if (lk_fk (lk_ko o) f).1 = 3 then X.2.2.2 else X.2.2.1, (lk_fk (lk_ko o) f).2, .inl g) : va_E) = lk_e X σ' τ (o, f + 1) ∧ ∀ q ∈ lk_cells, q ≠ (o, f + 1) → lk_e X σ' τ q = lk_e X σ τ q := by
  refine ⟨?_, ?_⟩
  · show Sum.inl _ = Sum.inl _
    congr 3
    congr 1
    funext i
    rw [hσ, if_pos ⟨rfl, rfl⟩]
  · rintro ⟨o', f'⟩ hmem hne
    cases f' with
    | zero =>
      show Sum.inr _ = Sum.inr _
      congr 2
      apply List.map_congr_left
      intro j _
      by_cases h : o' = o ∧ j = f
      · obtain ⟨h1, h2⟩ := h
        subst h1; subst h2
        have e1 : ¬ ((lk_fk (lk_ko o') j).1 = 0 ∨ (lk_fk (lk_ko o') j).1 = 5) := by omega
        simp [lk_fv, e1]
      · simp [lk_fv, hσ, h]
    | succ f' =>
      show Sum.inl _ = Sum.inl _
      congr 3
      congr 1
      funext i
      rw [hσ, if_neg]
      rintro ⟨h1, h2⟩
      have h1' : o' = o := h1
      exact hne (by rw [h1', h2])
theorem lk_up_row (σ : lk_N) (o f i : Nat) (v : Int32) : ∀ o' f' i', lk_up σ o f i v o' f' i' = if o' = o ∧ f' = f then upd (σ o f) i v i' else σ o' f' i' := by
  intro o' f' i'
  unfold lk_up upd
  by_cases h : o' = o ∧ f' = f
  · obtain ⟨h1, h2⟩ := h
    subst h1; subst h2
    by_cases h3 : i' = i <;> simp [h3]
  · rw [if_neg h, if_neg (fun z => h ⟨z.1, z.2.1⟩)]
end
section
/-! THE ROWS of the pure judgement: an instruction each, out of the kit's rows -/
def lk_T0 (ci : Nat) : u_T := match vwCl[ci]? with
  | some q => q.2.1
  | none => TX0
def lk_lk (own : String) (idx ci f : Nat) : Cond := .fieldLink own idx (lk_T0 ci f).1 (lk_T0 ci f).2.1 (lk_T0 ci f).2.2.1
theorem lk_tab : ∀ ci, ci < 10 → ∃ (C : String) (ty0 : Nat → FieldType), vwCl[ci]? = some (C, lk_T0 ci, lk_nf ci) ∧ (∀ w ∈ u_ws C (lk_T0 ci) (lk_nf ci), w ∈ lk_AW) ∧ (∀ k, k < lk_nf ci → parseFieldDescriptor (lk_T0 ci k).2.2.1 = some (ty0 k)) ∧ (∀ a, a < lk_nf ci → ∀ b, b < lk_nf ci → a ≠ b → (lk_T0 ci a).2.1 ≠ (lk_T0 ci b).2.1)
  | 0, _ => ⟨RX0, tyX0, rfl, iwX0, tyX0_ok, nmX0⟩
  | 1, _ => ⟨RX1, tyX1, rfl, iwX1, tyX1_ok, nmX1⟩
  | 2, _ => ⟨RX2, tyX2, rfl, iwX2, tyX2_ok, nmX2⟩
  | 3, _ => ⟨RX3, tyX3, rfl, iwX3, tyX3_ok, nmX3⟩
  | 4, _ => ⟨RX4, tyX4, rfl, iwX4, tyX4_ok, nmX4⟩
  | 5, _ => ⟨RX5, tyX5, rfl, iwX5, tyX5_ok, nmX5⟩
  | 6, _ => ⟨RX6, tyX6, rfl, iwX6, tyX6_ok, nmX6⟩
  | 7, _ => ⟨RX7, tyX7, rfl, iwX7, tyX7_ok, nmX7⟩
  | 8, _ => ⟨RX8, tyX8, rfl, iwX8, tyX8_ok, nmX8⟩
  | 9, _ => ⟨RX9, tyX9, rfl, iwX9, tyX9_ok, nmX9⟩
theorem lk_tabk0 : ∀ ci, ci < 10 → ∀ f, f < lk_nf ci → (lk_fk ci f).1 = 0 → parseFieldDescriptor (lk_T0 ci f).2.2.1 = some .int := by decide +kernel
theorem lk_tabk5 : ∀ ci, ci < 10 → ∀ f, f < lk_nf ci → (lk_fk ci f).1 = 5 → parseFieldDescriptor (lk_T0 ci f).2.2.1 = some .boolean := by decide +kernel
theorem lk_tabk1 : ∀ ci, ci < 10 → ∀ f, f < lk_nf ci → (lk_fk ci f).1 = 1 → parseFieldDescriptor (lk_T0 ci f).2.2.1 = some .long := by decide +kernel
theorem lk_tabkf : ∀ ci, ci < 10 → ∀ f, f < lk_nf ci → (lk_fk ci f).1 = 0 ∨ (lk_fk ci f).1 = 5 ∨ (lk_fk ci f).1 = 1 → (lk_T0 ci f).2.2.2 = false := by decide +kernel
theorem lk_tabk (ci : Nat) (hc : ci < 10) (f : Nat) (hf : f < lk_nf ci) : ((lk_fk ci f).1 = 0 → parseFieldDescriptor (lk_T0 ci f).2.2.1 = some .int ∧ (lk_T0 ci f).2.2.2 = false) ∧ ((lk_fk ci f).1 = 5 → parseFieldDescriptor (lk_T0 ci f).2.2.1 = some .boolean ∧ (lk_T0 ci f).2.2.2 = false) ∧ ((lk_fk ci f).1 = 1 → parseFieldDescriptor (lk_T0 ci f).2.2.1 = some .long ∧ (lk_T0 ci f).2.2.2 = false) :=
  ⟨fun h => ⟨lk_tabk0 ci hc f hf h, lk_tabkf ci hc f hf (Or.inl h)⟩, fun h => ⟨lk_tabk5 ci hc f hf h, lk_tabkf ci hc f hf (Or.inr (Or.inl h))⟩, fun h => ⟨lk_tabk1 ci hc f hf h, lk_tabkf ci hc f hf (Or.inr (Or.inr h))⟩⟩
theorem lk_fk_lt {ci f : Nat} (h : (lk_fk ci f).1 ≠ 9) : f < lk_nf ci := by
  rcases Nat.lt_or_ge f (lk_nf ci) with q | q
  · exact q
  · refine absurd ?_ h
    unfold lk_fk
    rw [List.getD_eq_getElem?_getD, List.getElem?_eq_none q]
    rfl
theorem lk_AW_good : ∀ w ∈ lk_AW, (w.onTables && w.keeps) = true ∨ ∃ ty, w = .arrayClass ty := fun _ hw => good_of_word (List.mem_filter.mp hw).2
theorem lk_good {M M' : lk_M} (hc : Cond.code M'.1 M'.2.1 M'.2.2.1 M'.2.2.2 ∈ lk_AW) : GoodIn (lk_wd M) (lk_wd M') := by
  intro w hw
  have hm : w ∈ lk_AW := by
    rcases List.mem_cons.mp hw with h | h
    · rw [h]; exact hc
    · exact h
  exact ⟨List.mem_cons_of_mem _ hm, lk_AW_good w hm⟩
theorem lk_n01 {v : Int32} (h : v = 0 ∨ v = 1) : narrow .boolean (.int v) = .int v := by rcases h with rfl | rfl <;> rfl
theorem lk_f01 {v : Int32} (h : v = 0 ∨ v = 1) : fits .boolean (.int v) = true := by rcases h with rfl | rfl <;> rfl
theorem lk_r01 {v : Int32} (h : v = 0 ∨ v = 1) : vp_nar .boolean v = v := by rcases h with rfl | rfl <;> rfl
/-! locals -/
def lk_get : List (Nat × lk_V) → Nat → Option lk_V
  | [], _ => none
  | q :: t, i => match Nat.beq q.1 i with
    | true => some q.2
    | false => lk_get t i
def lk_ins : List (Nat × lk_V) → Nat → lk_V → List (Nat × lk_V)
  | [], i, v => [(i, v)]
  | q :: t, i, v => match Nat.ble q.1 i with
    | true => q :: lk_ins t i v
    | false => (i, v) :: q :: t
def lk_st1 (L : List (Nat × lk_V)) (i : Nat) (v : lk_V) : List (Nat × lk_V) := lk_ins (L.filter (fun q => !(q.1 == i) && !(q.1 + 1 == i && lk_cat q.2 == 2))) i v
def lk_st2 (L : List (Nat × lk_V)) (i : Nat) (v : lk_V) : List (Nat × lk_V) := lk_ins (L.filter (fun q => !(q.1 == i) && (!(q.1 == i + 1) && !(q.1 + 1 == i && lk_cat q.2 == 2)))) i v
theorem lk_get_mem : ∀ {L : List (Nat × lk_V)} {i : Nat} {v : lk_V}, lk_get L i = some v → (i, v) ∈ L
  | [], _, _, h => by cases h
  | q :: t, i, v, h => by
    unfold lk_get at h
    split at h
    · rename_i hb
      have := Nat.eq_of_beq_eq_true hb
      cases h
      exact List.mem_cons.mpr (Or.inl (by rw [← this]))
    · exact List.mem_cons_of_mem _ (lk_get_mem h)
theorem lk_ins_mem : ∀ {L : List (Nat × lk_V)} {i : Nat} {v : lk_V} {q : Nat × lk_V}, q ∈ lk_ins L i v → q = (i, v) ∨ q ∈ L
  | [], i, v, q, h => by
    rcases List.mem_cons.mp h with h | h
    · exact Or.inl h
    · cases h
  | a :: t, i, v, q, h => by
    unfold lk_ins at h
    split at h
    · rcases List.mem_cons.mp h with h | h
      · exact Or.inr (by rw [h]; exact List.mem_cons_self)
      · rcases lk_ins_mem h with h | h
        · exact Or.inl h
        · exact Or.inr (List.mem_cons_of_mem _ h)
    · rcases List.mem_cons.mp h with h | h
      · exact Or.inl h
      · exact Or.inr h
abbrev lk_lc (X : lk_G) (L : List (Nat × lk_V)) : List (Nat × Value) := L.map (fun q => (q.1, lk_c X.1 q.2))
theorem lk_at_l {X : lk_G} {ls : Array Slot} {n : Nat} {L : List (Nat × lk_V)} (h : lv_has ls n (lk_lc X L)) {i : Nat} {v : lk_V} (hg : lk_get L i = some v) : ls[i]? = some (.val (lk_c X.1 v)) :=
  h.2.2 (i, lk_c X.1 v) (List.mem_map.mpr ⟨(i, v), lk_get_mem hg, rfl⟩)
theorem lk_st1_has {X : lk_G} {ls : Array Slot} {n : Nat} {L : List (Nat × lk_V)} {i : Nat} {v : lk_V} (h : lv_has ls n ((i, lk_c X.1 v) :: (lk_lc X L).filter (fun q => !(q.1 == i) && !(q.1 + 1 == i && q.2.category == 2)))) : lv_has ls n (lk_lc X (lk_st1 L i v)) := by
  refine ⟨h.1, h.2.1, fun q hq => h.2.2 q ?_⟩
  obtain ⟨r, h1, rfl⟩ := List.mem_map.mp hq
  rcases lk_ins_mem h1 with h2 | h2
  · rw [h2]; exact List.mem_cons_self
  · obtain ⟨h3, h4⟩ := List.mem_filter.mp h2
    refine List.mem_cons_of_mem _ (List.mem_filter.mpr ⟨List.mem_map.mpr ⟨r, h3, rfl⟩, ?_⟩)
    simpa [lk_c_cat] using h4
theorem lk_st2_has {X : lk_G} {ls : Array Slot} {n : Nat} {L : List (Nat × lk_V)} {i : Nat} {v : lk_V} (h : lv_has ls n ((i, lk_c X.1 v) :: (lk_lc X L).filter (fun q => !(q.1 == i) && (!(q.1 == i + 1) && !(q.1 + 1 == i && q.2.category == 2))))) : lv_has ls n (lk_lc X (lk_st2 L i v)) := by
  refine ⟨h.1, h.2.1, fun q hq => h.2.2 q ?_⟩
  obtain ⟨r, h1, rfl⟩ := List.mem_map.mp hq
  rcases lk_ins_mem h1 with h2 | h2
  · rw [h2]; exact List.mem_cons_self
  · obtain ⟨h3, h4⟩ := List.mem_filter.mp h2
    refine List.mem_cons_of_mem _ (List.mem_filter.mpr ⟨List.mem_map.mpr ⟨r, h3, rfl⟩, ?_⟩)
    simpa [lk_c_cat] using h4
def lk_pick (L : List (Nat × lk_V)) (is : List Nat) : List (Nat × lk_V) := is.filterMap (fun i => (lk_get L i).map (fun v => (i, v)))
section LKR
variable {l : Launch} {X : lk_G} {M : lk_M} {d pc : Nat} {L : List (Nat × lk_V)} {S : List lk_V} {σ : lk_N} {τ : lk_T} {Q : lk_Q}
/-- fewer locals -/
theorem lk_sub {L' : List (Nat × lk_V)} (is : List Nat) (hL : lk_pick L is = L') (k : lk_W l X M d pc L' S σ τ Q) : lk_W l X M d pc L S σ τ Q := by
  intro p e s m args below meth c H locs ls C hP hD hS hl
  refine k p e s m args below meth c H locs ls C hP hD hS ⟨hl.1, hl.2.1, fun q hq => hl.2.2 q ?_⟩
  subst hL
  obtain ⟨r, h1, rfl⟩ := List.mem_map.mp hq
  obtain ⟨i, -, h2⟩ := List.mem_filterMap.mp h1
  cases hg : lk_get L i with
  | none => rw [hg] at h2; cases h2
  | some v =>
    rw [hg] at h2
    cases h2
    exact List.mem_map.mpr ⟨(i, v), lk_get_mem hg, rfl⟩
theorem lk_cast {pc' : Nat} {L' : List (Nat × lk_V)} {S' : List lk_V} (h1 : pc' = pc) (h2 : L' = L) (h3 : S' = S) (k : lk_W l X M d pc' L' S' σ τ Q) : lk_W l X M d pc L S σ τ Q := by subst h1; subst h2; subst h3; exact k
theorem lk_mono {Q' : lk_Q} (h : lk_W l X M d pc L S σ τ Q') (hQ : ∀ r a b, Q' r a b → Q r a b) : lk_W l X M d pc L S σ τ Q := by
  intro p e s m args below meth c H locs ls C hP hD hS hl T hT X0
  obtain ⟨t, h1, o, h2, h3, ⟨⟨r, a, b, q1, q2, q3⟩, q4⟩, h5⟩ := h p e s m args below meth c H locs ls C hP hD hS hl T hT X0
  exact ⟨t, h1, o, h2, h3, ⟨⟨r, a, b, q1, hQ r a b q2, q3⟩, q4⟩, h5⟩
theorem lk_iconst {n : Int} {v : Int32} (hd : decode M.2.1 pc = .ok (.iconst n, 1)) (hv : Int32.ofInt n = v) (k : lk_W l X M d (pc + 1) L (lk_vi v :: S) σ τ Q) : lk_W l X M d pc L S σ τ Q :=
  fun p e s m args below meth c H locs ls C hP hD hS hl => lv_iconst C.1 C.2.1 hd hv (k p e s m args below meth c H locs ls C hP hD hS hl)
theorem lk_bipush {n : Int} {v : Int32} (hd : decode M.2.1 pc = .ok (.bipush n, 2)) (hv : (Int8.ofInt n).toInt32 = v) (k : lk_W l X M d (pc + 2) L (lk_vi v :: S) σ τ Q) : lk_W l X M d pc L S σ τ Q :=
  fun p e s m args below meth c H locs ls C hP hD hS hl => lv_bipush C.1 C.2.1 hd hv (k p e s m args below meth c H locs ls C hP hD hS hl)
theorem lk_sipush {n : Int} {v : Int32} (hd : decode M.2.1 pc = .ok (.sipush n, 3)) (hv : (Int16.ofInt n).toInt32 = v) (k : lk_W l X M d (pc + 3) L (lk_vi v :: S) σ τ Q) : lk_W l X M d pc L S σ τ Q :=
  fun p e s m args below meth c H locs ls C hP hD hS hl => lv_sipush C.1 C.2.1 hd hv (k p e s m args below meth c H locs ls C hP hD hS hl)
theorem lk_lconst {n : Fin 2} {v : Int64} (hd : decode M.2.1 pc = .ok (.lconst n, 1)) (hv : Int64.ofNat (n : Nat) = v) (k : lk_W l X M d (pc + 1) L (lk_vl v :: S) σ τ Q) : lk_W l X M d pc L S σ τ Q :=
  fun p e s m args below meth c H locs ls C hP hD hS hl => lv_lconst C.1 C.2.1 hd hv (k p e s m args below meth c H locs ls C hP hD hS hl)
theorem lk_ldc {idx : Nat} {v : Int32} (hd : decode M.2.1 pc = .ok (.ldc idx, 2)) (hw : Cond.constant M.1.cls idx v ∈ lk_AW) (k : lk_W l X M d (pc + 2) L (lk_vi v :: S) σ τ Q) : lk_W l X M d pc L S σ τ Q :=
  fun p e s m args below meth c H locs ls C hP hD hS hl => lv_ldc C.1 C.2.1 C.2.2.2.2.1 (C.2.2.2.2.2.1 _ (List.mem_cons_of_mem _ hw)) hd (k p e s m args below meth c H locs ls C hP hD hS hl)
theorem lk_ldc2 {idx : Nat} {v : Int64} (hd : decode M.2.1 pc = .ok (.ldc2_w idx, 3)) (hw : Cond.constantLong M.1.cls idx v ∈ lk_AW) (k : lk_W l X M d (pc + 3) L (lk_vl v :: S) σ τ Q) : lk_W l X M d pc L S σ τ Q :=
  fun p e s m args below meth c H locs ls C hP hD hS hl => lv_ldc2 C.1 C.2.1 C.2.2.2.2.1 (C.2.2.2.2.2.1 _ (List.mem_cons_of_mem _ hw)) hd (k p e s m args below meth c H locs ls C hP hD hS hl)
theorem lk_iload_n {k4 : Fin 4} {i : Nat} {x : Int32} (hd : decode M.2.1 pc = .ok (.iload_n k4, 1)) (hi : (k4 : Nat) = i) (hg : lk_get L i = some (lk_vi x)) (k : lk_W l X M d (pc + 1) L (lk_vi x :: S) σ τ Q) : lk_W l X M d pc L S σ τ Q :=
  fun p e s m args below meth c H locs ls C hP hD hS hl => lv_iload_n C.1 C.2.1 hd hi (lk_at_l hl hg) (k p e s m args below meth c H locs ls C hP hD hS hl)
theorem lk_iload {i : Nat} {x : Int32} (hd : decode M.2.1 pc = .ok (.iload i, 2)) (hg : lk_get L i = some (lk_vi x)) (k : lk_W l X M d (pc + 2) L (lk_vi x :: S) σ τ Q) : lk_W l X M d pc L S σ τ Q :=
  fun p e s m args below meth c H locs ls C hP hD hS hl => lv_iload C.1 C.2.1 hd (lk_at_l hl hg) (k p e s m args below meth c H locs ls C hP hD hS hl)
theorem lk_lload_n {k4 : Fin 4} {i : Nat} {x : Int64} (hd : decode M.2.1 pc = .ok (.lload_n k4, 1)) (hi : (k4 : Nat) = i) (hg : lk_get L i = some (lk_vl x)) (k : lk_W l X M d (pc + 1) L (lk_vl x :: S) σ τ Q) : lk_W l X M d pc L S σ τ Q :=
  fun p e s m args below meth c H locs ls C hP hD hS hl => lv_lload_n C.1 C.2.1 hd hi (lk_at_l hl hg) (k p e s m args below meth c H locs ls C hP hD hS hl)
theorem lk_lload {i : Nat} {x : Int64} (hd : decode M.2.1 pc = .ok (.lload i, 2)) (hg : lk_get L i = some (lk_vl x)) (k : lk_W l X M d (pc + 2) L (lk_vl x :: S) σ τ Q) : lk_W l X M d pc L S σ τ Q :=
  fun p e s m args below meth c H locs ls C hP hD hS hl => lv_lload C.1 C.2.1 hd (lk_at_l hl hg) (k p e s m args below meth c H locs ls C hP hD hS hl)
theorem lk_aload_n {k4 : Fin 4} {i o f : Nat} (hd : decode M.2.1 pc = .ok (.aload_n k4, 1)) (hi : (k4 : Nat) = i) (hg : lk_get L i = some (lk_vr o f)) (k : lk_W l X M d (pc + 1) L (lk_vr o f :: S) σ τ Q) : lk_W l X M d pc L S σ τ Q :=
  fun p e s m args below meth c H locs ls C hP hD hS hl => lv_aload_n C.1 C.2.1 hd hi (lk_at_l hl hg) (k p e s m args below meth c H locs ls C hP hD hS hl)
theorem lk_aload {i o f : Nat} (hd : decode M.2.1 pc = .ok (.aload i, 2)) (hg : lk_get L i = some (lk_vr o f)) (k : lk_W l X M d (pc + 2) L (lk_vr o f :: S) σ τ Q) : lk_W l X M d pc L S σ τ Q :=
  fun p e s m args below meth c H locs ls C hP hD hS hl => lv_aload C.1 C.2.1 hd (lk_at_l hl hg) (k p e s m args below meth c H locs ls C hP hD hS hl)
theorem lk_istore_n {k4 : Fin 4} {i : Nat} {x : Int32} {L' : List (Nat × lk_V)} (hd : decode M.2.1 pc = .ok (.istore_n k4, 1)) (hi : (k4 : Nat) = i) (hn : i < M.2.2.1) (hL : lk_st1 L i (lk_vi x) = L') (k : lk_W l X M d (pc + 1) L' S σ τ Q) : lk_W l X M d pc L (lk_vi x :: S) σ τ Q :=
  fun p e s m args below meth c H locs ls C hP hD hS hl => lv_istore_n C.1 C.2.1 hd hi hl hn rfl (fun ls' hl' => k p e s m args below meth c H locs ls' C hP hD hS (by rw [← hL]; exact lk_st1_has hl'))
theorem lk_istore {i : Nat} {x : Int32} {L' : List (Nat × lk_V)} (hd : decode M.2.1 pc = .ok (.istore i, 2)) (hn : i < M.2.2.1) (hL : lk_st1 L i (lk_vi x) = L') (k : lk_W l X M d (pc + 2) L' S σ τ Q) : lk_W l X M d pc L (lk_vi x :: S) σ τ Q :=
  fun p e s m args below meth c H locs ls C hP hD hS hl => lv_istore C.1 C.2.1 hd hl hn rfl (fun ls' hl' => k p e s m args below meth c H locs ls' C hP hD hS (by rw [← hL]; exact lk_st1_has hl'))
theorem lk_lstore_n {k4 : Fin 4} {i : Nat} {x : Int64} {L' : List (Nat × lk_V)} (hd : decode M.2.1 pc = .ok (.lstore_n k4, 1)) (hi : (k4 : Nat) = i) (hn : i + 1 < M.2.2.1) (hL : lk_st2 L i (lk_vl x) = L') (k : lk_W l X M d (pc + 1) L' S σ τ Q) : lk_W l X M d pc L (lk_vl x :: S) σ τ Q :=
  fun p e s m args below meth c H locs ls C hP hD hS hl => lv_lstore_n C.1 C.2.1 hd hi hl hn rfl (fun ls' hl' => k p e s m args below meth c H locs ls' C hP hD hS (by rw [← hL]; exact lk_st2_has hl'))
theorem lk_lstore {i : Nat} {x : Int64} {L' : List (Nat × lk_V)} (hd : decode M.2.1 pc = .ok (.lstore i, 2)) (hn : i + 1 < M.2.2.1) (hL : lk_st2 L i (lk_vl x) = L') (k : lk_W l X M d (pc + 2) L' S σ τ Q) : lk_W l X M d pc L (lk_vl x :: S) σ τ Q :=
  fun p e s m args below meth c H locs ls C hP hD hS hl => lv_lstore C.1 C.2.1 hd hl hn rfl (fun ls' hl' => k p e s m args below meth c H locs ls' C hP hD hS (by rw [← hL]; exact lk_st2_has hl'))
theorem lk_astore_n {k4 : Fin 4} {i o f : Nat} {L' : List (Nat × lk_V)} (hd : decode M.2.1 pc = .ok (.astore_n k4, 1)) (hi : (k4 : Nat) = i) (hn : i < M.2.2.1) (hL : lk_st1 L i (lk_vr o f) = L') (k : lk_W l X M d (pc + 1) L' S σ τ Q) : lk_W l X M d pc L (lk_vr o f :: S) σ τ Q :=
  fun p e s m args below meth c H locs ls C hP hD hS hl => lv_astore_n C.1 C.2.1 hd hi hl hn rfl (fun ls' hl' => k p e s m args below meth c H locs ls' C hP hD hS (by rw [← hL]; exact lk_st1_has (v := lk_vr o f) hl'))
theorem lk_iinc {i : Nat} {n : Int} {x v : Int32} {L' : List (Nat × lk_V)} (hd : decode M.2.1 pc = .ok (.iinc i n, 3)) (hg : lk_get L i = some (lk_vi x)) (hv : x + Int32.ofInt n = v) (hn : i < M.2.2.1) (hL : lk_st1 L i (lk_vi v) = L') (k : lk_W l X M d (pc + 3) L' S σ τ Q) : lk_W l X M d pc L S σ τ Q := by
  intro p e s m args below meth c H locs ls C hP hD hS hl
  obtain ⟨j, hj⟩ := List.getElem?_of_mem (List.mem_map.mpr ⟨(i, lk_vi x), lk_get_mem hg, rfl⟩ : (i, Value.int x) ∈ lk_lc X L)
  exact lv_iinc C.1 C.2.1 hd hl hj hv hn rfl (fun ls' hl' => k p e s m args below meth c H locs ls' C hP hD hS (by rw [← hL]; exact lk_st1_has (v := lk_vi v) hl'))
theorem lk_iadd {x y : Int32} (hd : decode M.2.1 pc = .ok (.iadd, 1)) (k : lk_W l X M d (pc + 1) L (lk_vi (x + y) :: S) σ τ Q) : lk_W l X M d pc L (lk_vi y :: lk_vi x :: S) σ τ Q :=
  fun p e s m args below meth c H locs ls C hP hD hS hl => lv_iadd C.1 C.2.1 hd (k p e s m args below meth c H locs ls C hP hD hS hl)
theorem lk_isub {x y : Int32} (hd : decode M.2.1 pc = .ok (.isub, 1)) (k : lk_W l X M d (pc + 1) L (lk_vi (x - y) :: S) σ τ Q) : lk_W l X M d pc L (lk_vi y :: lk_vi x :: S) σ τ Q :=
  fun p e s m args below meth c H locs ls C hP hD hS hl => lv_isub C.1 C.2.1 hd (k p e s m args below meth c H locs ls C hP hD hS hl)
theorem lk_imul {x y : Int32} (hd : decode M.2.1 pc = .ok (.imul, 1)) (k : lk_W l X M d (pc + 1) L (lk_vi (x * y) :: S) σ τ Q) : lk_W l X M d pc L (lk_vi y :: lk_vi x :: S) σ τ Q :=
  fun p e s m args below meth c H locs ls C hP hD hS hl => lv_imul C.1 C.2.1 hd (k p e s m args below meth c H locs ls C hP hD hS hl)
theorem lk_iand {x y : Int32} (hd : decode M.2.1 pc = .ok (.iand, 1)) (k : lk_W l X M d (pc + 1) L (lk_vi (x &&& y) :: S) σ τ Q) : lk_W l X M d pc L (lk_vi y :: lk_vi x :: S) σ τ Q :=
  fun p e s m args below meth c H locs ls C hP hD hS hl => lv_iand C.1 C.2.1 hd (k p e s m args below meth c H locs ls C hP hD hS hl)
theorem lk_ishl {x y : Int32} (hd : decode M.2.1 pc = .ok (.ishl, 1)) (k : lk_W l X M d (pc + 1) L (lk_vi (x <<< (y &&& 31)) :: S) σ τ Q) : lk_W l X M d pc L (lk_vi y :: lk_vi x :: S) σ τ Q :=
  fun p e s m args below meth c H locs ls C hP hD hS hl => lv_ishl C.1 C.2.1 hd (k p e s m args below meth c H locs ls C hP hD hS hl)
theorem lk_ishr {x y : Int32} (hd : decode M.2.1 pc = .ok (.ishr, 1)) (k : lk_W l X M d (pc + 1) L (lk_vi (x >>> (y &&& 31)) :: S) σ τ Q) : lk_W l X M d pc L (lk_vi y :: lk_vi x :: S) σ τ Q :=
  fun p e s m args below meth c H locs ls C hP hD hS hl => lv_ishr C.1 C.2.1 hd (k p e s m args below meth c H locs ls C hP hD hS hl)
theorem lk_idiv {x y : Int32} (hd : decode M.2.1 pc = .ok (.idiv, 1)) (hne : ¬ y = 0) (k : lk_W l X M d (pc + 1) L (lk_vi (x / y) :: S) σ τ Q) : lk_W l X M d pc L (lk_vi y :: lk_vi x :: S) σ τ Q :=
  fun p e s m args below meth c H locs ls C hP hD hS hl => lv_idiv C.1 C.2.1 hd hne (k p e s m args below meth c H locs ls C hP hD hS hl)
theorem lk_irem {x y : Int32} (hd : decode M.2.1 pc = .ok (.irem, 1)) (hne : ¬ y = 0) (k : lk_W l X M d (pc + 1) L (lk_vi (x - x / y * y) :: S) σ τ Q) : lk_W l X M d pc L (lk_vi y :: lk_vi x :: S) σ τ Q :=
  fun p e s m args below meth c H locs ls C hP hD hS hl => lv_irem C.1 C.2.1 hd hne (k p e s m args below meth c H locs ls C hP hD hS hl)
theorem lk_ineg {x : Int32} (hd : decode M.2.1 pc = .ok (.ineg, 1)) (k : lk_W l X M d (pc + 1) L (lk_vi (0 - x) :: S) σ τ Q) : lk_W l X M d pc L (lk_vi x :: S) σ τ Q :=
  fun p e s m args below meth c H locs ls C hP hD hS hl => lv_ineg C.1 C.2.1 hd (k p e s m args below meth c H locs ls C hP hD hS hl)
theorem lk_ladd {x y : Int64} (hd : decode M.2.1 pc = .ok (.ladd, 1)) (k : lk_W l X M d (pc + 1) L (lk_vl (x + y) :: S) σ τ Q) : lk_W l X M d pc L (lk_vl y :: lk_vl x :: S) σ τ Q :=
  fun p e s m args below meth c H locs ls C hP hD hS hl => lv_ladd C.1 C.2.1 hd (k p e s m args below meth c H locs ls C hP hD hS hl)
theorem lk_lmul {x y : Int64} (hd : decode M.2.1 pc = .ok (.lmul, 1)) (k : lk_W l X M d (pc + 1) L (lk_vl (x * y) :: S) σ τ Q) : lk_W l X M d pc L (lk_vl y :: lk_vl x :: S) σ τ Q :=
  fun p e s m args below meth c H locs ls C hP hD hS hl => lv_lmul C.1 C.2.1 hd (k p e s m args below meth c H locs ls C hP hD hS hl)
theorem lk_land {x y : Int64} (hd : decode M.2.1 pc = .ok (.land, 1)) (k : lk_W l X M d (pc + 1) L (lk_vl (x &&& y) :: S) σ τ Q) : lk_W l X M d pc L (lk_vl y :: lk_vl x :: S) σ τ Q :=
  fun p e s m args below meth c H locs ls C hP hD hS hl => lv_land C.1 C.2.1 hd (k p e s m args below meth c H locs ls C hP hD hS hl)
theorem lk_lxor {x y : Int64} (hd : decode M.2.1 pc = .ok (.lxor, 1)) (k : lk_W l X M d (pc + 1) L (lk_vl (x ^^^ y) :: S) σ τ Q) : lk_W l X M d pc L (lk_vl y :: lk_vl x :: S) σ τ Q :=
  fun p e s m args below meth c H locs ls C hP hD hS hl => lv_lxor C.1 C.2.1 hd (k p e s m args below meth c H locs ls C hP hD hS hl)
theorem lk_ldiv {x y : Int64} (hd : decode M.2.1 pc = .ok (.ldiv, 1)) (hne : ¬ y = 0) (k : lk_W l X M d (pc + 1) L (lk_vl (x / y) :: S) σ τ Q) : lk_W l X M d pc L (lk_vl y :: lk_vl x :: S) σ τ Q :=
  fun p e s m args below meth c H locs ls C hP hD hS hl => lv_ldiv C.1 C.2.1 hd hne (k p e s m args below meth c H locs ls C hP hD hS hl)
theorem lk_lcmp {x y : Int64} (hd : decode M.2.1 pc = .ok (.lcmp, 1)) (k : lk_W l X M d (pc + 1) L (lk_vi (lg_cmp x y) :: S) σ τ Q) : lk_W l X M d pc L (lk_vl y :: lk_vl x :: S) σ τ Q :=
  fun p e s m args below meth c H locs ls C hP hD hS hl => W.lcmp C.1 C.2.1 hd (k p e s m args below meth c H locs ls C hP hD hS hl)
theorem lk_dup {v : lk_V} (hd : decode M.2.1 pc = .ok (.dup, 1)) (hv : lk_cat v = 1) (k : lk_W l X M d (pc + 1) L (v :: v :: S) σ τ Q) : lk_W l X M d pc L (v :: S) σ τ Q :=
  fun p e s m args below meth c H locs ls C hP hD hS hl => lv_dup C.1 C.2.1 hd (by rw [lk_c_cat]; exact hv) (k p e s m args below meth c H locs ls C hP hD hS hl)
theorem lk_pop {v : lk_V} (hd : decode M.2.1 pc = .ok (.pop, 1)) (hv : lk_cat v = 1) (k : lk_W l X M d (pc + 1) L S σ τ Q) : lk_W l X M d pc L (v :: S) σ τ Q :=
  fun p e s m args below meth c H locs ls C hP hD hS hl => lv_pop C.1 C.2.1 hd (by rw [lk_c_cat]; exact hv) (k p e s m args below meth c H locs ls C hP hD hS hl)
theorem lk_dup2 {v w : lk_V} (hd : decode M.2.1 pc = .ok (.dup2, 1)) (hv : lk_cat v = 1) (hw : lk_cat w = 1) (k : lk_W l X M d (pc + 1) L (v :: w :: v :: w :: S) σ τ Q) : lk_W l X M d pc L (v :: w :: S) σ τ Q :=
  fun p e s m args below meth c H locs ls C hP hD hS hl => lv_dup2_11 C.1 C.2.1 hd (by rw [lk_c_cat]; exact hv) (by rw [lk_c_cat]; exact hw) (k p e s m args below meth c H locs ls C hP hD hS hl)
theorem lk_dup_x1 {v w : lk_V} (hd : decode M.2.1 pc = .ok (.dup_x1, 1)) (hv : lk_cat v = 1) (hw : lk_cat w = 1) (k : lk_W l X M d (pc + 1) L (v :: w :: v :: S) σ τ Q) : lk_W l X M d pc L (v :: w :: S) σ τ Q :=
  fun p e s m args below meth c H locs ls C hP hD hS hl => lv_dup_x1 C.1 C.2.1 hd (by rw [lk_c_cat]; exact hv) (by rw [lk_c_cat]; exact hw) (k p e s m args below meth c H locs ls C hP hD hS hl)
theorem lk_dup_x2 {v w u : lk_V} (hd : decode M.2.1 pc = .ok (.dup_x2, 1)) (hv : lk_cat v = 1) (hw : lk_cat w = 1) (hu : lk_cat u = 1) (k : lk_W l X M d (pc + 1) L (v :: w :: u :: v :: S) σ τ Q) : lk_W l X M d pc L (v :: w :: u :: S) σ τ Q :=
  fun p e s m args below meth c H locs ls C hP hD hS hl => lv_dup_x2 C.1 C.2.1 hd (by rw [lk_c_cat]; exact hv) (by rw [lk_c_cat]; exact hw) (by rw [lk_c_cat]; exact hu) (k p e s m args below meth c H locs ls C hP hD hS hl)
theorem lk_goto {off : Int} {tgt : Nat} (hd : decode M.2.1 pc = .ok (.goto off, 3)) (ht : (pc : Int) + off = (tgt : Int)) (k : lk_W l X M d tgt L S σ τ Q) : lk_W l X M d pc L S σ τ Q :=
  fun p e s m args below meth c H locs ls C hP hD hS hl => lv_goto C.1 C.2.1 hd ht (k p e s m args below meth c H locs ls C hP hD hS hl)
theorem lk_if_eq {x : Int32} {off : Int} {tgt : Nat} (hd : decode M.2.1 pc = .ok (.ifCond .eq off, 3)) (ht : (pc : Int) + off = (tgt : Int)) (kt : x = 0 → lk_W l X M d tgt L S σ τ Q) (kf : ¬ x = 0 → lk_W l X M d (pc + 3) L S σ τ Q) : lk_W l X M d pc L (lk_vi x :: S) σ τ Q :=
  fun p e s m args below meth c H locs ls C hP hD hS hl => lv_if_eq C.1 C.2.1 hd ht (fun z => kt z p e s m args below meth c H locs ls C hP hD hS hl) (fun z => kf z p e s m args below meth c H locs ls C hP hD hS hl)
theorem lk_icmp_eq {x y : Int32} {off : Int} {tgt : Nat} (hd : decode M.2.1 pc = .ok (.if_icmp .eq off, 3)) (ht : (pc : Int) + off = (tgt : Int)) (kt : x = y → lk_W l X M d tgt L S σ τ Q) (kf : ¬ x = y → lk_W l X M d (pc + 3) L S σ τ Q) : lk_W l X M d pc L (lk_vi y :: lk_vi x :: S) σ τ Q :=
  fun p e s m args below meth c H locs ls C hP hD hS hl => lv_icmp_eq C.1 C.2.1 hd ht (fun z => kt z p e s m args below meth c H locs ls C hP hD hS hl) (fun z => kf z p e s m args below meth c H locs ls C hP hD hS hl)
theorem lk_if_ne {x : Int32} {off : Int} {tgt : Nat} (hd : decode M.2.1 pc = .ok (.ifCond .ne off, 3)) (ht : (pc : Int) + off = (tgt : Int)) (kt : ¬ x = 0 → lk_W l X M d tgt L S σ τ Q) (kf : x = 0 → lk_W l X M d (pc + 3) L S σ τ Q) : lk_W l X M d pc L (lk_vi x :: S) σ τ Q :=
  fun p e s m args below meth c H locs ls C hP hD hS hl => lv_if_ne C.1 C.2.1 hd ht (fun z => kt z p e s m args below meth c H locs ls C hP hD hS hl) (fun z => kf z p e s m args below meth c H locs ls C hP hD hS hl)
theorem lk_icmp_ne {x y : Int32} {off : Int} {tgt : Nat} (hd : decode M.2.1 pc = .ok (.if_icmp .ne off, 3)) (ht : (pc : Int) + off = (tgt : Int)) (kt : ¬ x = y → lk_W l X M d tgt L S σ τ Q) (kf : x = y → lk_W l X M d (pc + 3) L S σ τ Q) : lk_W l X M d pc L (lk_vi y :: lk_vi x :: S) σ τ Q :=
  fun p e s m args below meth c H locs ls C hP hD hS hl => lv_icmp_ne C.1 C.2.1 hd ht (fun z => kt z p e s m args below meth c H locs ls C hP hD hS hl) (fun z => kf z p e s m args below meth c H locs ls C hP hD hS hl)
theorem lk_if_lt {x : Int32} {off : Int} {tgt : Nat} (hd : decode M.2.1 pc = .ok (.ifCond .lt off, 3)) (ht : (pc : Int) + off = (tgt : Int)) (kt : x < 0 → lk_W l X M d tgt L S σ τ Q) (kf : ¬ x < 0 → lk_W l X M d (pc + 3) L S σ τ Q) : lk_W l X M d pc L (lk_vi x :: S) σ τ Q :=
  fun p e s m args below meth c H locs ls C hP hD hS hl => lv_if_lt C.1 C.2.1 hd ht (fun z => kt z p e s m args below meth c H locs ls C hP hD hS hl) (fun z => kf z p e s m args below meth c H locs ls C hP hD hS hl)
theorem lk_icmp_lt {x y : Int32} {off : Int} {tgt : Nat} (hd : decode M.2.1 pc = .ok (.if_icmp .lt off, 3)) (ht : (pc : Int) + off = (tgt : Int)) (kt : x < y → lk_W l X M d tgt L S σ τ Q) (kf : ¬ x < y → lk_W l X M d (pc + 3) L S σ τ Q) : lk_W l X M d pc L (lk_vi y :: lk_vi x :: S) σ τ Q :=
  fun p e s m args below meth c H locs ls C hP hD hS hl => lv_icmp_lt C.1 C.2.1 hd ht (fun z => kt z p e s m args below meth c H locs ls C hP hD hS hl) (fun z => kf z p e s m args below meth c H locs ls C hP hD hS hl)
theorem lk_if_ge {x : Int32} {off : Int} {tgt : Nat} (hd : decode M.2.1 pc = .ok (.ifCond .ge off, 3)) (ht : (pc : Int) + off = (tgt : Int)) (kt : 0 ≤ x → lk_W l X M d tgt L S σ τ Q) (kf : ¬ 0 ≤ x → lk_W l X M d (pc + 3) L S σ τ Q) : lk_W l X M d pc L (lk_vi x :: S) σ τ Q :=
  fun p e s m args below meth c H locs ls C hP hD hS hl => lv_if_ge C.1 C.2.1 hd ht (fun z => kt z p e s m args below meth c H locs ls C hP hD hS hl) (fun z => kf z p e s m args below meth c H locs ls C hP hD hS hl)
theorem lk_icmp_ge {x y : Int32} {off : Int} {tgt : Nat} (hd : decode M.2.1 pc = .ok (.if_icmp .ge off, 3)) (ht : (pc : Int) + off = (tgt : Int)) (kt : y ≤ x → lk_W l X M d tgt L S σ τ Q) (kf : ¬ y ≤ x → lk_W l X M d (pc + 3) L S σ τ Q) : lk_W l X M d pc L (lk_vi y :: lk_vi x :: S) σ τ Q :=
  fun p e s m args below meth c H locs ls C hP hD hS hl => lv_icmp_ge C.1 C.2.1 hd ht (fun z => kt z p e s m args below meth c H locs ls C hP hD hS hl) (fun z => kf z p e s m args below meth c H locs ls C hP hD hS hl)
theorem lk_if_gt {x : Int32} {off : Int} {tgt : Nat} (hd : decode M.2.1 pc = .ok (.ifCond .gt off, 3)) (ht : (pc : Int) + off = (tgt : Int)) (kt : 0 < x → lk_W l X M d tgt L S σ τ Q) (kf : ¬ 0 < x → lk_W l X M d (pc + 3) L S σ τ Q) : lk_W l X M d pc L (lk_vi x :: S) σ τ Q :=
  fun p e s m args below meth c H locs ls C hP hD hS hl => lv_if_gt C.1 C.2.1 hd ht (fun z => kt z p e s m args below meth c H locs ls C hP hD hS hl) (fun z => kf z p e s m args below meth c H locs ls C hP hD hS hl)
theorem lk_icmp_gt {x y : Int32} {off : Int} {tgt : Nat} (hd : decode M.2.1 pc = .ok (.if_icmp .gt off, 3)) (ht : (pc : Int) + off = (tgt : Int)) (kt : y < x → lk_W l X M d tgt L S σ τ Q) (kf : ¬ y < x → lk_W l X M d (pc + 3) L S σ τ Q) : lk_W l X M d pc L (lk_vi y :: lk_vi x :: S) σ τ Q :=
  fun p e s m args below meth c H locs ls C hP hD hS hl => lv_icmp_gt C.1 C.2.1 hd ht (fun z => kt z p e s m args below meth c H locs ls C hP hD hS hl) (fun z => kf z p e s m args below meth c H locs ls C hP hD hS hl)
theorem lk_if_le {x : Int32} {off : Int} {tgt : Nat} (hd : decode M.2.1 pc = .ok (.ifCond .le off, 3)) (ht : (pc : Int) + off = (tgt : Int)) (kt : x ≤ 0 → lk_W l X M d tgt L S σ τ Q) (kf : ¬ x ≤ 0 → lk_W l X M d (pc + 3) L S σ τ Q) : lk_W l X M d pc L (lk_vi x :: S) σ τ Q :=
  fun p e s m args below meth c H locs ls C hP hD hS hl => lv_if_le C.1 C.2.1 hd ht (fun z => kt z p e s m args below meth c H locs ls C hP hD hS hl) (fun z => kf z p e s m args below meth c H locs ls C hP hD hS hl)
theorem lk_icmp_le {x y : Int32} {off : Int} {tgt : Nat} (hd : decode M.2.1 pc = .ok (.if_icmp .le off, 3)) (ht : (pc : Int) + off = (tgt : Int)) (kt : x ≤ y → lk_W l X M d tgt L S σ τ Q) (kf : ¬ x ≤ y → lk_W l X M d (pc + 3) L S σ τ Q) : lk_W l X M d pc L (lk_vi y :: lk_vi x :: S) σ τ Q :=
  fun p e s m args below meth c H locs ls C hP hD hS hl => lv_icmp_le C.1 C.2.1 hd ht (fun z => kt z p e s m args below meth c H locs ls C hP hD hS hl) (fun z => kf z p e s m args below meth c H locs ls C hP hD hS hl)
/-! fields -/
theorem lk_getv {o f ci idx : Nat} {v : lk_V} (hd : decode M.2.1 pc = .ok (.getfield idx, 3)) (hc : lk_ko o = ci) (hl : lk_lk M.1.cls idx ci f ∈ lk_AW) (hci : ci < 10) (hf : f < lk_nf ci) (hv : lk_fv X.1 σ τ o f = lk_c X.1 v) (k : lk_W l X M d (pc + 3) L (v :: S) σ τ Q) : lk_W l X M d pc L (lk_vr o 0 :: S) σ τ Q := by
  subst hc
  intro p e s m args below meth c H locs ls C hP hD hS hl0
  obtain ⟨q0, hq, hw⟩ := lk_at (X := X) (σ := σ) (τ := τ) (lk_mem0 (lk_ko_lt rfl hci))
  obtain ⟨Cn, ty0, h1, h2, h3, h4⟩ := lk_tab (lk_ko o) hci
  have hts := C.2.2.2.2.2.1
  refine va_get C.1 C.2.1 hts (fun w hw => List.mem_cons_of_mem _ (h2 w hw)) C.2.2.2.2.1 C.2.2.2.2.2.2.2 hP q0 hw h1 f hf (hts _ (List.mem_cons_of_mem _ hl)) (fun _ h9 => h9) (v := lk_c X.1 v) ?_ hd (k p e s m args below meth c H locs ls C hP hD hS hl0)
  rw [List.getElem?_map, List.getElem?_range hf]
  exact congrArg some hv
theorem lk_getI {o f ci idx : Nat} (hd : decode M.2.1 pc = .ok (.getfield idx, 3)) (hc : lk_ko o = ci) (hl : lk_lk M.1.cls idx ci f ∈ lk_AW) (hci : ci < 10) (hk : (lk_fk ci f).1 = 0 ∨ (lk_fk ci f).1 = 5) (k : lk_W l X M d (pc + 3) L (lk_vi (σ o f 0) :: S) σ τ Q) : lk_W l X M d pc L (lk_vr o 0 :: S) σ τ Q :=
  lk_getv hd hc hl hci (lk_fk_lt (by omega)) (by subst hc; simp [lk_fv, hk, lk_c]) k
theorem lk_getL {o f ci idx : Nat} (hd : decode M.2.1 pc = .ok (.getfield idx, 3)) (hc : lk_ko o = ci) (hl : lk_lk M.1.cls idx ci f ∈ lk_AW) (hci : ci < 10) (hk : (lk_fk ci f).1 = 1) (k : lk_W l X M d (pc + 3) L (lk_vl (τ o f) :: S) σ τ Q) : lk_W l X M d pc L (lk_vr o 0 :: S) σ τ Q :=
  lk_getv hd hc hl hci (lk_fk_lt (by omega)) (by subst hc; simp [lk_fv, hk, lk_c]) k
theorem lk_getR {o f ci idx : Nat} (hd : decode M.2.1 pc = .ok (.getfield idx, 3)) (hc : lk_ko o = ci) (hl : lk_lk M.1.cls idx ci f ∈ lk_AW) (hci : ci < 10) (hk : (lk_fk ci f).1 = 2 ∨ (lk_fk ci f).1 = 3) (k : lk_W l X M d (pc + 3) L (lk_vr o (f + 1) :: S) σ τ Q) : lk_W l X M d pc L (lk_vr o 0 :: S) σ τ Q :=
  lk_getv hd hc hl hci (lk_fk_lt (by omega)) (by subst hc; rcases hk with hk | hk <;> simp [lk_fv, hk, lk_c]) k
theorem lk_getO {o f ci idx o' : Nat} (hd : decode M.2.1 pc = .ok (.getfield idx, 3)) (hc : lk_ko o = ci) (hl : lk_lk M.1.cls idx ci f ∈ lk_AW) (hci : ci < 10) (hk : (lk_fk ci f).1 = 4) (ho : lk_fo o f = o') (k : lk_W l X M d (pc + 3) L (lk_vr o' 0 :: S) σ τ Q) : lk_W l X M d pc L (lk_vr o 0 :: S) σ τ Q :=
  lk_getv hd hc hl hci (lk_fk_lt (by omega)) (by subst hc; subst ho; simp [lk_fv, hk, lk_c]) k
theorem lk_putI {o f ci idx : Nat} {v : Int32} (hd : decode M.2.1 pc = .ok (.putfield idx, 3)) (hc : lk_ko o = ci) (hl : lk_lk M.1.cls idx ci f ∈ lk_AW) (hci : ci < 10) (hk : (lk_fk ci f).1 = 0) (k : lk_W l X M d (pc + 3) L S (lk_up σ o f 0 v) τ Q) : lk_W l X M d pc L (lk_vi v :: lk_vr o 0 :: S) σ τ Q := by
  subst hc
  intro p e s m args below meth c H locs ls C hP hD hS hl0
  have hf : f < lk_nf (lk_ko o) := lk_fk_lt (by omega)
  obtain ⟨q0, hq, hw⟩ := lk_at (X := X) (σ := σ) (τ := τ) (lk_mem0 (lk_ko_lt rfl hci))
  obtain ⟨Cn, ty0, h1, h2, h3, h4⟩ := lk_tab (lk_ko o) hci
  obtain ⟨t1, t2⟩ := (lk_tabk (lk_ko o) hci f hf).1 hk
  obtain ⟨e1, e2⟩ := lk_e_putI (X := X) (σ := σ) (τ := τ) (v := v) (Or.inl hk) hf
  have hts := C.2.2.2.2.2.1
  refine va_put C.1 C.2.1 hts (fun w hw => List.mem_cons_of_mem _ (h2 w hw)) ty0 h3 h4 C.2.2.2.2.1 C.2.2.2.2.2.2.2 hP hD hS q0 hw h1 f hf (hts _ (List.mem_cons_of_mem _ hl)) (fun _ h9 => h9) t2 (ty := .int) (v := .int v) t1 rfl rfl (by simpa using hf) hd (fun H1 locs1 hP1 hD1 hS1 => ?_)
  rw [e1, lk_set hq e2] at hP1
  exact k p e s m args below meth c H1 locs1 ls C hP1 (lk_D_any hD) hS1 hl0
theorem lk_putZ {o f ci idx : Nat} {v : Int32} (hd : decode M.2.1 pc = .ok (.putfield idx, 3)) (hc : lk_ko o = ci) (hl : lk_lk M.1.cls idx ci f ∈ lk_AW) (hci : ci < 10) (hk : (lk_fk ci f).1 = 5) (hv : v = 0 ∨ v = 1) (k : lk_W l X M d (pc + 3) L S (lk_up σ o f 0 v) τ Q) : lk_W l X M d pc L (lk_vi v :: lk_vr o 0 :: S) σ τ Q := by
  subst hc
  intro p e s m args below meth c H locs ls C hP hD hS hl0
  have hf : f < lk_nf (lk_ko o) := lk_fk_lt (by omega)
  obtain ⟨q0, hq, hw⟩ := lk_at (X := X) (σ := σ) (τ := τ) (lk_mem0 (lk_ko_lt rfl hci))
  obtain ⟨Cn, ty0, h1, h2, h3, h4⟩ := lk_tab (lk_ko o) hci
  obtain ⟨t1, t2⟩ := (lk_tabk (lk_ko o) hci f hf).2.1 hk
  obtain ⟨e1, e2⟩ := lk_e_putI (X := X) (σ := σ) (τ := τ) (v := v) (Or.inr hk) hf
  have hts := C.2.2.2.2.2.1
  refine va_put C.1 C.2.1 hts (fun w hw => List.mem_cons_of_mem _ (h2 w hw)) ty0 h3 h4 C.2.2.2.2.1 C.2.2.2.2.2.2.2 hP hD hS q0 hw h1 f hf (hts _ (List.mem_cons_of_mem _ hl)) (fun _ h9 => h9) t2 (ty := .boolean) (v := .int v) t1 (lk_n01 hv) (lk_f01 hv) (by simpa using hf) hd (fun H1 locs1 hP1 hD1 hS1 => ?_)
  rw [e1, lk_set hq e2] at hP1
  exact k p e s m args below meth c H1 locs1 ls C hP1 (lk_D_any hD) hS1 hl0
theorem lk_putL {o f ci idx : Nat} {v : Int64} (hd : decode M.2.1 pc = .ok (.putfield idx, 3)) (hc : lk_ko o = ci) (hl : lk_lk M.1.cls idx ci f ∈ lk_AW) (hci : ci < 10) (hk : (lk_fk ci f).1 = 1) (k : lk_W l X M d (pc + 3) L S σ (lk_ut τ o f v) Q) : lk_W l X M d pc L (lk_vl v :: lk_vr o 0 :: S) σ τ Q := by
  subst hc
  intro p e s m args below meth c H locs ls C hP hD hS hl0
  have hf : f < lk_nf (lk_ko o) := lk_fk_lt (by omega)
  obtain ⟨q0, hq, hw⟩ := lk_at (X := X) (σ := σ) (τ := τ) (lk_mem0 (lk_ko_lt rfl hci))
  obtain ⟨Cn, ty0, h1, h2, h3, h4⟩ := lk_tab (lk_ko o) hci
  obtain ⟨t1, t2⟩ := (lk_tabk (lk_ko o) hci f hf).2.2 hk
  obtain ⟨e1, e2⟩ := lk_e_putL (X := X) (σ := σ) (τ := τ) (v := v) hk hf
  have hts := C.2.2.2.2.2.1
  refine va_put C.1 C.2.1 hts (fun w hw => List.mem_cons_of_mem _ (h2 w hw)) ty0 h3 h4 C.2.2.2.2.1 C.2.2.2.2.2.2.2 hP hD hS q0 hw h1 f hf (hts _ (List.mem_cons_of_mem _ hl)) (fun _ h9 => h9) t2 (ty := .long) (v := .long v) t1 rfl rfl (by simpa using hf) hd (fun H1 locs1 hP1 hD1 hS1 => ?_)
  rw [e1, lk_set hq e2] at hP1
  exact k p e s m args below meth c H1 locs1 ls C hP1 (lk_D_any hD) hS1 hl0
/-! rows of numbers -/
theorem lk_cellR {σ : lk_N} {τ : lk_T} {X : lk_G} {o f ci : Nat} (hc : lk_ko o = ci) (hk : (lk_fk ci f).1 = 2) : lk_e X σ τ (o, f + 1) = .inl (X.2.2.1, (lk_fk ci f).2, .inl (σ o f)) := by subst hc; simp [lk_e, hk]
theorem lk_cellZ {σ : lk_N} {τ : lk_T} {X : lk_G} {o f ci : Nat} (hc : lk_ko o = ci) (hk : (lk_fk ci f).1 = 3) : lk_e X σ τ (o, f + 1) = .inl (X.2.2.2, (lk_fk ci f).2, .inl (σ o f)) := by subst hc; simp [lk_e, hk]
theorem lk_iald {o f ci n : Nat} {i : Int32} (hd : decode M.2.1 pc = .ok (.iaload, 1)) (hc : lk_ko o = ci) (hci : ci < 10) (hk : lk_fk ci f = (2, n)) (hin : vp_in i n) (k : lk_W l X M d (pc + 1) L (lk_vi (σ o f i.toNatClampNeg) :: S) σ τ Q) : lk_W l X M d pc L (lk_vi i :: lk_vr o (f + 1) :: S) σ τ Q := by
  intro p e s m args below meth c H locs ls C hP hD hS hl0
  have hk1 : (lk_fk ci f).1 = 2 := by rw [hk]
  obtain ⟨q0, hq, hw⟩ := lk_at (X := X) (σ := σ) (τ := τ) (lk_memR (f := f) (lk_ko_lt hc hci) (Or.inl (by rw [hc]; exact hk1)))
  rw [lk_cellR hc hk1, hk] at hw
  exact va_iald C.1 C.2.1 C.2.2.2.2.2.2.2 hP q0 0 hw rfl hin hd (k p e s m args below meth c H locs ls C hP hD hS hl0)
theorem lk_zald {o f ci n : Nat} {i : Int32} (hd : decode M.2.1 pc = .ok (.baload, 1)) (hc : lk_ko o = ci) (hci : ci < 10) (hk : lk_fk ci f = (3, n)) (hin : vp_in i n) (k : lk_W l X M d (pc + 1) L (lk_vi (σ o f i.toNatClampNeg) :: S) σ τ Q) : lk_W l X M d pc L (lk_vi i :: lk_vr o (f + 1) :: S) σ τ Q := by
  intro p e s m args below meth c H locs ls C hP hD hS hl0
  have hk1 : (lk_fk ci f).1 = 3 := by rw [hk]
  obtain ⟨q0, hq, hw⟩ := lk_at (X := X) (σ := σ) (τ := τ) (lk_memR (f := f) (lk_ko_lt hc hci) (Or.inr (by rw [hc]; exact hk1)))
  rw [lk_cellZ hc hk1, hk] at hw
  exact va_zald C.1 C.2.1 C.2.2.2.2.2.2.2 hP q0 1 hw rfl hin hd (k p e s m args below meth c H locs ls C hP hD hS hl0)
theorem lk_iast {o f ci n : Nat} {i v : Int32} (hd : decode M.2.1 pc = .ok (.iastore, 1)) (hc : lk_ko o = ci) (hci : ci < 10) (hk : lk_fk ci f = (2, n)) (hin : vp_in i n) (k : lk_W l X M d (pc + 1) L S (lk_up σ o f i.toNatClampNeg v) τ Q) : lk_W l X M d pc L (lk_vi v :: lk_vi i :: lk_vr o (f + 1) :: S) σ τ Q := by
  intro p e s m args below meth c H locs ls C hP hD hS hl0
  have hk1 : (lk_fk (lk_ko o) f).1 = 2 := by rw [hc, hk]
  obtain ⟨q0, hq, hw⟩ := lk_at (X := X) (σ := σ) (τ := τ) (lk_memR (f := f) (lk_ko_lt hc hci) (Or.inl hk1))
  rw [lk_cellR hc (by rw [hk]), hk] at hw
  obtain ⟨e1, e2⟩ := lk_e_row (X := X) (τ := τ) (lk_up_row σ o f i.toNatClampNeg v) (Or.inl hk1)
  refine va_iast C.1 C.2.1 C.2.2.2.2.2.2.2 hP hD hS q0 0 hw rfl hin hd (fun H1 locs1 hP1 hD1 hS1 => ?_)
  rw [if_neg (by rw [hk1]; decide), hc, hk] at e1
  rw [e1, lk_set hq e2] at hP1
  exact k p e s m args below meth c H1 locs1 ls C hP1 (lk_D_any hD) hS1 hl0
theorem lk_zast {o f ci n : Nat} {i v : Int32} (hd : decode M.2.1 pc = .ok (.bastore, 1)) (hc : lk_ko o = ci) (hci : ci < 10) (hk : lk_fk ci f = (3, n)) (hin : vp_in i n) (hv : v = 0 ∨ v = 1) (k : lk_W l X M d (pc + 1) L S (lk_up σ o f i.toNatClampNeg v) τ Q) : lk_W l X M d pc L (lk_vi v :: lk_vi i :: lk_vr o (f + 1) :: S) σ τ Q := by
  intro p e s m args below meth c H locs ls C hP hD hS hl0
  have hk1 : (lk_fk (lk_ko o) f).1 = 3 := by rw [hc, hk]
  obtain ⟨q0, hq, hw⟩ := lk_at (X := X) (σ := σ) (τ := τ) (lk_memR (f := f) (lk_ko_lt hc hci) (Or.inr hk1))
  rw [lk_cellZ hc (by rw [hk]), hk] at hw
  obtain ⟨e1, e2⟩ := lk_e_row (X := X) (τ := τ) (lk_up_row σ o f i.toNatClampNeg v) (Or.inr hk1)
  refine va_zast C.1 C.2.1 C.2.2.2.2.2.2.2 hP hD hS q0 1 hw rfl hin hd (fun H1 locs1 hP1 hD1 hS1 => ?_)
  rw [if_pos hk1, hc, hk] at e1
  rw [lk_r01 hv, e1, lk_set hq e2] at hP1
  exact k p e s m args below meth c H1 locs1 ls C hP1 (lk_D_any hD) hS1 hl0
theorem lk_alenI {o f ci n : Nat} {v : Int32} (hd : decode M.2.1 pc = .ok (.arraylength, 1)) (hc : lk_ko o = ci) (hci : ci < 10) (hk : lk_fk ci f = (2, n)) (hv : Int32.ofNat n = v) (k : lk_W l X M d (pc + 1) L (lk_vi v :: S) σ τ Q) : lk_W l X M d pc L (lk_vr o (f + 1) :: S) σ τ Q := by
  intro p e s m args below meth c H locs ls C hP hD hS hl0
  have hk1 : (lk_fk ci f).1 = 2 := by rw [hk]
  obtain ⟨q0, hq, hw⟩ := lk_at (X := X) (σ := σ) (τ := τ) (lk_memR (f := f) (lk_ko_lt hc hci) (Or.inl (by rw [hc]; exact hk1)))
  rw [lk_cellR hc hk1, hk] at hw
  exact va_alen C.1 C.2.1 C.2.2.2.2.2.2.2 hP q0 0 hw rfl hv hd (k p e s m args below meth c H locs ls C hP hD hS hl0)
/-! answers -/
theorem lk_iret {v : Int32} (ty : FieldType) (hd : decode M.2.1 pc = .ok (.ireturn, 1)) (hr : M.2.2.2 = some ty) (hn : narrow ty (.int v) = .int v) (hQ : Q (some (lk_vi v)) σ τ) : lk_W l X M d pc L [lk_vi v] σ τ Q := by
  intro p e s m args below meth c H locs ls C hP hD hS hl0
  have hlocks := C.2.2.2.2.2.2.1
  exact W.zret (v := v) C.1 C.2.1 (by rw [C.2.2.1, hr]) hn (fun t ht hW => ⟨⟨some (lk_vi v), σ, τ, rfl, hQ, by rw [ht]; exact hP, va_K.moved hW.alike C.2.2.2.2.2.2.2, hD⟩, hS.F ht⟩) hS.2.2 hd hlocks
theorem lk_lret {v : Int64} (hd : decode M.2.1 pc = .ok (.lreturn, 1)) (hr : M.2.2.2 = some .long) (hQ : Q (some (lk_vl v)) σ τ) : lk_W l X M d pc L [lk_vl v] σ τ Q := by
  intro p e s m args below meth c H locs ls C hP hD hS hl0
  have hlocks := C.2.2.2.2.2.2.1
  exact W.lret (v := v) C.1 C.2.1 (by rw [C.2.2.1, hr]) (fun t ht hW => ⟨⟨some (lk_vl v), σ, τ, rfl, hQ, by rw [ht]; exact hP, va_K.moved hW.alike C.2.2.2.2.2.2.2, hD⟩, hS.F ht⟩) hS.2.2 hd hlocks
theorem lk_vret (hd : decode M.2.1 pc = .ok (.return_, 1)) (hr : M.2.2.2 = none) (hQ : Q none σ τ) : lk_W l X M d pc L [] σ τ Q := by
  intro p e s m args below meth c H locs ls C hP hD hS hl0
  have hlocks := C.2.2.2.2.2.2.1
  exact W.vret C.1 C.2.1 (by rw [C.2.2.1, hr]) (fun t ht hW => ⟨⟨none, σ, τ, rfl, hQ, by rw [ht]; exact hP, va_K.moved hW.alike C.2.2.2.2.2.2.2, hD⟩, hS.F ht⟩) hS.2.2 hd hlocks
end LKR
end
section
/-! methods and calls of the pure judgement -/
def lk_args : Nat → List lk_V → List (Nat × lk_V)
  | _, [] => []
  | i, v :: vs => (i, v) :: lk_args (if lk_cat v = 2 then i + 2 else i + 1) vs
theorem lk_args_c (X : lk_G) : ∀ (vs : List lk_V) (i : Nat), lv_args i (vs.map (lk_c X.1)) = lk_lc X (lk_args i vs)
  | [], _ => rfl
  | v :: vs, i => by
    show (i, lk_c X.1 v) :: lv_args _ _ = (i, lk_c X.1 v) :: lk_lc X _
    rw [lk_args_c X vs, lk_c_cat]
theorem lk_sl_len (X : lk_G) : ∀ (vs : List lk_V), (lg_sl (vs.map (lk_c X.1))).length = (vs.map lk_cat).sum
  | [] => rfl
  | v :: vs => by
    have ih := lk_sl_len X vs
    have hc := lk_c_cat X.1 v
    simp only [lg_sl, List.map_cons, List.flatMap_cons, List.length_append, List.sum_cons] at ih ⊢
    rw [ih]
    congr 1
    rcases v with x | x | q <;> rfl
theorem lk_met {l : Launch} {X : lk_G} {M : lk_M} {d : Nat} {args : List lk_V} {σ : lk_N} {τ : lk_T} {Q : lk_Q} {L : List (Nat × lk_V)} (hy : plainName M.1.cls = true) (hlen : (args.map lk_cat).sum ≤ M.2.2.1) (hL : lk_args 0 args = L) (k : lk_W l X M d 0 L [] σ τ Q) : lk_Mt l X M d args σ τ Q := by
  subst hL
  refine Met.ofW (cc := M.2.1) (maxL := M.2.2.1) (ret := M.2.2.2) hy rfl ?_
  intro p e s m args' below meth c s₁ B hml hv
  obtain ⟨rfl, hP, hK, hD⟩ := hv
  have hts := atoms_spec (ws := lk_wd M) B.pre
  rw [lg_entry_eq]
  have hl := lv_entry (args.map (lk_c X.1)) (n := M.2.2.1) (by rw [lk_sl_len]; exact hlen)
  rw [lk_args_c] at hl
  exact k p e s m _ below meth c s.heap [] _ ⟨B.exec, B.bytes, B.returns, hml, findClass_of_methodNamed B.named, hts, B.notSynchronized, hK⟩ hP hD va_S.rf hl
theorem lk_Mt_mono {l : Launch} {X : lk_G} {M : lk_M} {d : Nat} {args : List lk_V} {σ : lk_N} {τ : lk_T} {Q Q' : lk_Q} (h : lk_Mt l X M d args σ τ Q') (hQ : ∀ r a b, Q' r a b → Q r a b) : lk_Mt l X M d args σ τ Q := by
  intro p e ha hc hk s m as below hf happ hpre hsp
  obtain ⟨t, o, h1, h2, h3, ⟨⟨r, a, b, q1, q2, q3⟩, q4⟩, h5⟩ := h p e ha hc hk s m as below hf happ hpre hsp
  exact ⟨t, o, h1, h2, h3, ⟨⟨r, a, b, q1, hQ r a b q2, q3⟩, q4⟩, h5⟩
theorem lk_H_calling {X : lk_G} {σ : lk_N} {τ : lk_T} {U : State} {g : JFrame} {mk : MethodId} {a : Array Value} (h : lk_H X σ τ U) : lk_H X σ τ (U.calling g mk a) :=
  ⟨h.1, va_K.moved (u := U) (U := U.calling g mk a) (Vm.Alike.refl U.vm) h.2.1, h.2.2⟩
section LKC
variable {l : Launch} {X : lk_G} {M : lk_M} {d pc : Nat} {L : List (Nat × lk_V)} {S : List lk_V} {σ : lk_N} {τ : lk_T} {Q : lk_Q}
/-- behind a call -/
theorem lk_after {Q' : lk_Q} {p : Program} {e : Env} {s : State} {m : MethodId} {args : Array Value} {below : List Frame} {meth : Method} {c : Code} {H : Heap} {locs : List Loc} {ls : Array Slot} {st0 : List Value} {R : Room} {aa : Array Value} {Qw : State → Prop}
    (hr : va_Run p l e R s m args below meth c H locs 0 0 0 0 (F0 m pc ls st0) (S.map (lk_c X.1)) (lk_Qc X Q' aa) (lk_A X)) (hS : va_S (lk_A X) s.heap H locs)
    (kk : ∀ (r : Option lk_V) (σ' : lk_N) (τ' : lk_T) (H1 : Heap) (locs1 : List Loc), Q' r σ' τ' → va_P X.2.1 vwCl (lk_ws X σ' τ') H1 → va_D (lk_A X) (lk_ws X σ' τ') → va_S (lk_A X) s.heap H1 locs1 → W p l e R s m args below meth c H1 locs1 0 0 Qw (F0 m (pc + 3) ls ((r.toList ++ S).map (lk_c X.1)))) : W p l e R s m args below meth c H locs 0 0 Qw (F0 m pc ls st0) := by
  intro T hT X0
  obtain ⟨v, st₀, t, T', Lc, h0, X', hL, e1, e2, ⟨⟨r, σ', τ', hv, hq, hP, hK, hD⟩, hz, hk⟩, st⟩ := hr T hT X0
  have hv' : v = r.map (lk_c X.1) := by cases hv; rfl
  rw [h0] at hz hk
  have hS' : va_S (lk_A X) s.heap T'.heap (locs ++ Lc) := ⟨Nat.le_trans hS.1 (by rw [e1]; exact hz), fun q h1 h2 => by rw [e1, hk q (Nat.lt_of_lt_of_le h1 hS.1) h2]; exact hS.2.1 q h1 h2, fun q hq => by
      rcases List.mem_append.mp hq with h | h
      · exact hS.2.2 q h
      · exact hL q h⟩
  obtain ⟨t2, a1, b1⟩ := kk r σ' τ' T'.heap (locs ++ Lc) hq (by rw [e1]; exact hP) hD hS' T' rfl X'
  refine ⟨t2, st t2 ?_, b1⟩
  subst hv'
  have : (r.map (lk_c X.1)).toList ++ S.map (lk_c X.1) = (r.toList ++ S).map (lk_c X.1) := by cases r <;> rfl
  rw [this]
  exact a1
theorem lk_rest {S : List lk_V} (γ : Nat → Nat → Nat) (h : (S.map lk_cat).sum ≤ 8) : ((S.map (lk_c γ)).map fun v => v.category).sum ≤ 8 := by
  have : (S.map (lk_c γ)).map (fun v => v.category) = S.map lk_cat := by
    rw [List.map_map]
    exact List.map_congr_left (fun v _ => lk_c_cat γ v)
  rw [this]; exact h
theorem lk_callV {M' : lk_M} {n idx o ci : Nat} {as : List lk_V} {S0 : List lk_V} {Q' : lk_Q} (hd : decode M.2.1 pc = .ok (.invokevirtual idx, 3)) (hs : S0 = as.reverse ++ lk_vr o 0 :: S) (cv : lk_cv M' n) (hn : as.length = n) (hl : Cond.methodLink M.1.cls idx M'.1 ∈ lk_AW) (hc : lk_ko o = ci) (hci : (vwCl[ci]?).map (fun q => q.1) = some M'.1.cls) (hroom : (S.map lk_cat).sum ≤ 8)
    (hM : lk_Mt l X M' d (lk_vr o 0 :: as) σ τ Q') (k : ∀ (r : Option lk_V) (σ' : lk_N) (τ' : lk_T), Q' r σ' τ' → lk_W l X M (d + 1) (pc + 3) L (r.toList ++ S) σ' τ' Q) : lk_W l X M (d + 1) pc L S0 σ τ Q := by
  subst hs
  intro p e s m args below meth c H locs ls C hP hD hS hl0
  obtain ⟨hx, hb, hr, hml, hown, hts, hlk, hK⟩ := C
  obtain ⟨w1, w2, w3, w4, ⟨w5, w6, w7⟩, w8⟩ := cv
  have hin : ∀ w ∈ lk_AW, w.before args s = true := fun w h => hts w (List.mem_cons_of_mem _ h)
  obtain ⟨q, hq1, hq2⟩ := Option.map_eq_some_iff.mp hci
  have hci10 : ci < 10 := (List.getElem?_eq_some_iff.mp hq1).1
  obtain ⟨q0, hq0, hw0⟩ := lk_at (X := X) (σ := σ) (τ := τ) (lk_mem0 (lk_ko_lt hc hci10))
  have hrec := va_recv hK hP (ci := ci) (q := q) hq1 (q0 := q0) (a := X.1 o 0) (fs := (List.range (lk_nf (lk_ko o))).map (lk_fv X.1 σ τ o)) (by rw [hw0, ← hc]; rfl)
  rw [hq2] at hrec
  have hfb : FrameBlind (va_Pc ((lk_vr o 0 :: as).map (lk_c X.1)) (lk_H X σ τ)) := fun a U g mk q => ⟨q.1, lk_H_calling q.2⟩
  refine lk_after (S := S) (va_runV (As := as.map (lk_c X.1)) (n := n) (index := idx) (C := M'.1.cls) (ret := M'.2.2.2) (bytes := M'.2.1) (maxL := M'.2.2.1) ⟨hx, hb, hml, hown, hts⟩ hM ⟨callB_of n hts (lk_good w4) rfl rfl rfl (hin _ w3) (hin _ hl) ⟨w5, w6, w7⟩ ⟨Nat.le_refl _, by show 8 + (M'.2.2.1 + 11) + 40 * d ≤ 40 * (d + 1); omega⟩, hin _ w1, hin _ w2⟩ ⟨hfb, hrec, fun U hU hW => ⟨rfl, by rw [hU]; exact hP, va_K.moved hW.alike hK, hD⟩⟩ rfl (by simpa using hn) hl0.1 ?_ (lv_room (lk_rest X.1 hroom)) hd ⟨Nat.zero_le _, Nat.zero_le _⟩) hS (fun r σ' τ' H1 locs1 hq hP1 hD1 hS1 => k r σ' τ' hq p e s m args below meth c H1 locs1 ls ⟨hx, hb, hr, hml, hown, hts, hlk, hK⟩ hP1 hD1 hS1 hl0)
  show ((as.reverse ++ lk_vr o 0 :: S).map (lk_c X.1)) = _
  simp [lk_c]
theorem lk_callS {M' : lk_M} {n idx : Nat} {as : List lk_V} {S0 : List lk_V} {Q' : lk_Q} (hd : decode M.2.1 pc = .ok (.invokestatic idx, 3)) (hs : S0 = as.reverse ++ S) (cv : lk_cs M' n) (hn : as.length = n) (hl : Cond.methodLink M.1.cls idx M'.1 ∈ lk_AW) (hroom : (S.map lk_cat).sum ≤ 8)
    (hM : lk_Mt l X M' d as σ τ Q') (k : ∀ (r : Option lk_V) (σ' : lk_N) (τ' : lk_T), Q' r σ' τ' → lk_W l X M (d + 1) (pc + 3) L (r.toList ++ S) σ' τ' Q) : lk_W l X M (d + 1) pc L S0 σ τ Q := by
  subst hs
  intro p e s m args below meth c H locs ls C hP hD hS hl0
  obtain ⟨hx, hb, hr, hml, hown, hts, hlk, hK⟩ := C
  obtain ⟨w1, w3, w4, ⟨w5, w6, w7⟩, w8⟩ := cv
  have hin : ∀ w ∈ lk_AW, w.before args s = true := fun w h => hts w (List.mem_cons_of_mem _ h)
  have hfb : FrameBlind (va_Pc (as.map (lk_c X.1)) (lk_H X σ τ)) := fun a U g mk q => ⟨q.1, lk_H_calling q.2⟩
  refine lk_after (S := S) (va_runS (As := as.map (lk_c X.1)) (n := n) (index := idx) (ret := M'.2.2.2) (bytes := M'.2.1) (maxL := M'.2.2.1) ⟨hx, hb, hml, hown, hts⟩ hM ⟨callB_of n hts (lk_good w4) rfl rfl rfl (hin _ w3) (hin _ hl) ⟨w5, w6, w7⟩ ⟨Nat.le_refl _, by show 8 + (M'.2.2.1 + 11) + 40 * d ≤ 40 * (d + 1); omega⟩, hin _ w1⟩ ⟨hfb, fun U hU hW => ⟨rfl, by rw [hU]; exact hP, va_K.moved hW.alike hK, hD⟩⟩ rfl (by simpa using hn) hl0.1 ?_ (lv_room (lk_rest X.1 hroom)) hd ⟨Nat.zero_le _, Nat.zero_le _⟩) hS (fun r σ' τ' H1 locs1 hq hP1 hD1 hS1 => k r σ' τ' hq p e s m args below meth c H1 locs1 ls ⟨hx, hb, hr, hml, hown, hts, hlk, hK⟩ hP1 hD1 hS1 hl0)
  show ((as.reverse ++ S).map (lk_c X.1)) = _
  simp
/-! members of the library -/
theorem lk_mmax {idx : Nat} {x y : Int32} (hd : decode M.2.1 pc = .ok (.invokestatic idx, 3)) (hl : Cond.methodLink M.1.cls idx yJ9_max_7cf53 ∈ lk_AW) (hroom : (S.map lk_cat).sum ≤ 8) (k : lk_W l X M (d + 1) (pc + 3) L (lk_vi (if x < y then y else x) :: S) σ τ Q) : lk_W l X M (d + 1) pc L (lk_vi y :: lk_vi x :: S) σ τ Q := by
  intro p e s m args below meth c H locs ls C hP hD hS hl0
  obtain ⟨hx, hb, hr, hml, hown, hts, hlk, hK⟩ := id C
  have hin : ∀ w ∈ lk_AW, w.before args s = true := fun w h => hts w (List.mem_cons_of_mem _ h)
  have hroom' := lk_rest X.1 hroom
  exact va_mmax hx hb (by rw [hml]; exact hl0.1.symm) hown (hin _ hl) (hin _ vJ9_max_7cf53.1) (hin _ vJ9_max_7cf53.2.1) (hin _ vJ9_max_7cf53.2.2.1) (by show 1 ≤ d + 1; omega) (by show _ + 13 ≤ 40 * (d + 1); omega) (Nat.zero_le _) (Nat.zero_le _) hd (k p e s m args below meth c H locs ls C hP hD hS hl0)
theorem lk_mmin {idx : Nat} {x y : Int32} (hd : decode M.2.1 pc = .ok (.invokestatic idx, 3)) (hl : Cond.methodLink M.1.cls idx yJ9_min_7cf53 ∈ lk_AW) (hroom : (S.map lk_cat).sum ≤ 8) (k : lk_W l X M (d + 1) (pc + 3) L (lk_vi (if y < x then y else x) :: S) σ τ Q) : lk_W l X M (d + 1) pc L (lk_vi y :: lk_vi x :: S) σ τ Q := by
  intro p e s m args below meth c H locs ls C hP hD hS hl0
  obtain ⟨hx, hb, hr, hml, hown, hts, hlk, hK⟩ := id C
  have hin : ∀ w ∈ lk_AW, w.before args s = true := fun w h => hts w (List.mem_cons_of_mem _ h)
  have hroom' := lk_rest X.1 hroom
  exact va_mmin hx hb (by rw [hml]; exact hl0.1.symm) hown (hin _ hl) (hin _ vJ9_min_7cf53.1) (hin _ vJ9_min_7cf53.2.1) (hin _ vJ9_min_7cf53.2.2.1) (by show 1 ≤ d + 1; omega) (by show _ + 13 ≤ 40 * (d + 1); omega) (Nat.zero_le _) (Nat.zero_le _) hd (k p e s m args below meth c H locs ls C hP hD hS hl0)
/-- n numbers of a row over those of another, from place 0 on -/
def lk_cp (σ : lk_N) (o f o' f' n : Nat) : lk_N := fun a b i => if a = o' ∧ b = f' then (if i < n then σ o f i else σ o' f' i) else σ a b i
theorem lk_copy {idx o f o' f' ci ci' n0 n1 : Nat} {n : Int32} {k0 : Nat} (hd : decode M.2.1 pc = .ok (.invokestatic idx, 3)) (hl : Cond.methodLink M.1.cls idx arraycopyName ∈ lk_AW) (hnat : Cond.native arraycopyName ∈ lk_AW) (hstat : Cond.static arraycopyName ∈ lk_AW) (hini : Cond.initialized "java/lang/System" ∈ lk_AW) (hc : lk_ko o = ci) (hci : ci < 10) (hk : lk_fk ci f = (2, n0)) (hc' : lk_ko o' = ci') (hci' : ci' < 10) (hk' : lk_fk ci' f' = (2, n1)) (hn : ¬ n < 0) (hn0 : n.toNatClampNeg = k0) (h0 : k0 ≤ n0) (h1 : k0 ≤ n1) (hroom : (S.map lk_cat).sum ≤ 8)
    (k : lk_W l X M (d + 2) (pc + 3) L S (lk_cp σ o f o' f' k0) τ Q) : lk_W l X M (d + 2) pc L (lk_vi n :: lk_vi 0 :: lk_vr o' (f' + 1) :: lk_vi 0 :: lk_vr o (f + 1) :: S) σ τ Q := by
  intro p e s m args below meth c H locs ls C hP hD hS hl0
  obtain ⟨hx, hb, hr, hml, hown, hts, hlk, hK⟩ := id C
  have hin : ∀ w ∈ lk_AW, w.before args s = true := fun w h => hts w (List.mem_cons_of_mem _ h)
  have hk1 : (lk_fk (lk_ko o) f).1 = 2 := by rw [hc, hk]
  have hk1' : (lk_fk (lk_ko o') f').1 = 2 := by rw [hc', hk']
  obtain ⟨q0, hq, hw⟩ := lk_at (X := X) (σ := σ) (τ := τ) (lk_memR (f := f) (lk_ko_lt hc hci) (Or.inl hk1))
  obtain ⟨q1, hq', hw'⟩ := lk_at (X := X) (σ := σ) (τ := τ) (lk_memR (f := f') (lk_ko_lt hc' hci') (Or.inl hk1'))
  rw [lk_cellR hc (by rw [hk]), hk] at hw
  rw [lk_cellR hc' (by rw [hk']), hk'] at hw'
  have hz : (0 : Int32).toNatClampNeg = 0 := rfl
  have hroom' := lk_rest X.1 hroom
  have hrow : ∀ a b i, lk_cp σ o f o' f' k0 a b i = if a = o' ∧ b = f' then va_cpy (σ o f) (σ o' f') 0 0 n.toNatClampNeg i else σ a b i := by
    intro a b i
    simp only [lk_cp, va_cpy, hn0, Nat.zero_le, true_and, Nat.zero_add, Nat.sub_zero]
  obtain ⟨e1, e2⟩ := lk_e_row (X := X) (τ := τ) hrow (Or.inl hk1')
  refine va_copyi hx hb (by rw [hml]; exact hl0.1.symm) hown (hin _ hl) (hin _ hnat) (hin _ hstat) (hin _ hini) hK hP hD hS q0 q1 0 0 hw hw' rfl rfl rfl (sp := 0) (dp := 0) (by decide) (by decide) hn (by rw [hz, hn0]; omega) (by rw [hz, hn0]; omega) (fun i _ => rfl) (by show 1 ≤ d + 2; omega) ?_ hd (fun H1 locs1 hP1 hD1 hS1 => ?_)
  · have : nativeFrameWords "java/lang/System" "arraycopy" 5 ≤ 40 := by decide +kernel
    show _ + _ ≤ 40 * (d + 2)
    omega
  · rw [hz] at hP1
    rw [if_neg (by rw [hk1']; decide), hc', hk'] at e1
    rw [e1, lk_set hq' e2] at hP1
    exact k p e s m args below meth c H1 locs1 ls C hP1 (lk_D_any hD) hS1 hl0
end LKC
end
section
/-! ROWS for small numbers (nI), for conditions as answers, and what a walk wants besides -/
theorem lk_nb {P : Prop} {i : Decidable P} (_ : Unit) : narrow .boolean (.int (@ite Int32 P i 1 0)) = .int (@ite Int32 P i 1 0) := by by_cases h : P <;> simp [h] <;> rfl
theorem lk_b01 {P : Prop} {i : Decidable P} (_ : Unit) : @ite Int32 P i 1 0 = 0 ∨ @ite Int32 P i 1 0 = 1 := by by_cases h : P <;> simp [h]
theorem lk_fo1 {o : Nat} (h : lk_ko o = 0) : lk_fo o 10 = o + 1 := by
  have : o ≠ 0 := by intro e; subst e; cases h
  simp [lk_fo, this]
theorem lk_fo2 {o : Nat} (h : lk_ko o = 0) : lk_fo o 11 = o + 2 := by
  have : o ≠ 0 := by intro e; subst e; cases h
  simp [lk_fo, this]
theorem lk_kc1 {o : Nat} (h : lk_ko o = 0) : lk_ko (o + 1) = 5 := by
  have h1 : ∀ o, o < 19 → lk_ko o = 0 → lk_ko (o + 1) = 5 := by decide +kernel
  exact h1 o (lk_ko_lt h (by decide)) h
theorem lk_kc2 {o : Nat} (h : lk_ko o = 0) : lk_ko (o + 2) = 1 := by
  have h1 : ∀ o, o < 19 → lk_ko o = 0 → lk_ko (o + 2) = 1 := by decide +kernel
  exact h1 o (lk_ko_lt h (by decide)) h
theorem lk_sw0 (n : Nat) (x : Int32) : (∃ k : Nat, k ≤ n ∧ x = nI k) ∨ (x.toInt < 0 ∨ (n : Int) < x.toInt) := by
  by_cases h : x.toInt < 0 ∨ (n : Int) < x.toInt
  · exact Or.inr h
  · refine Or.inl ⟨x.toInt.toNat, by omega, ?_⟩
    apply Int32.toInt_inj.mp
    have h2 := Int32.toInt_lt x
    rw [nI_toInt (by omega)]
    omega
theorem lk_inN {a n : Nat} (h : a < n) (hn : n ≤ 1000) : vp_in (nI a) n := nI_in h (by omega)
theorem lk_nI0 : nI 0 = 0 := rfl
theorem lk_k3 {r1 : Option lk_V} {σ1 : lk_N} {τ1 : lk_T} {P : Option lk_V → lk_N → lk_T → Prop} (h : P r1 σ1 τ1) : ∀ r σ τ, (r = r1 ∧ σ = σ1 ∧ τ = τ1) → P r σ τ := by
  rintro _ _ _ ⟨rfl, rfl, rfl⟩; exact h
theorem lk_k2 {r1 : Option lk_V} {σ1 : lk_N} {τ1 : lk_T} {P : Option lk_V → lk_N → lk_T → Prop} (h : ∀ σ2, σ2 = σ1 → P r1 σ2 τ1) : ∀ r σ τ, (r = r1 ∧ σ = σ1 ∧ τ = τ1) → P r σ τ := by
  rintro _ _ _ ⟨rfl, rfl, rfl⟩; exact h _ rfl
section LKN
variable {l : Launch} {X : lk_G} {M : lk_M} {d pc : Nat} {L : List (Nat × lk_V)} {S : List lk_V} {σ : lk_N} {τ : lk_T} {Q : lk_Q}
theorem lk_top {x : Int32} (k : ∀ y : Int32, y = x → lk_W l X M d pc L (lk_vi y :: S) σ τ Q) : lk_W l X M d pc L (lk_vi x :: S) σ τ Q := k x rfl
theorem lk_eqtop {x y : Int32} (h : x = y) (k : lk_W l X M d pc L (lk_vi y :: S) σ τ Q) : lk_W l X M d pc L (lk_vi x :: S) σ τ Q := by rw [h]; exact k
theorem lk_getIv {o f ci idx : Nat} {v : Int32} (hd : decode M.2.1 pc = .ok (.getfield idx, 3)) (hc : lk_ko o = ci) (hl : lk_lk M.1.cls idx ci f ∈ lk_AW) (hci : ci < 10) (hk : (lk_fk ci f).1 = 0 ∨ (lk_fk ci f).1 = 5) (hv : σ o f 0 = v) (k : lk_W l X M d (pc + 3) L (lk_vi v :: S) σ τ Q) : lk_W l X M d pc L (lk_vr o 0 :: S) σ τ Q := lk_getI hd hc hl hci hk (by rw [hv]; exact k)
theorem lk_iaddN {a b : Nat} (hd : decode M.2.1 pc = .ok (.iadd, 1)) (k : lk_W l X M d (pc + 1) L (lk_vi (nI (a + b)) :: S) σ τ Q) : lk_W l X M d pc L (lk_vi (nI b) :: lk_vi (nI a) :: S) σ τ Q := lk_iadd hd (by rw [nI_add]; exact k)
theorem lk_nI_sub {a b : Nat} (h : b ≤ a) : nI a - nI b = nI (a - b) := by
  have e : nI a = nI (a - b) + nI b := by rw [nI_add]; congr 1; omega
  rw [e]; simp
theorem lk_isubN {a b : Nat} (hd : decode M.2.1 pc = .ok (.isub, 1)) (h : b ≤ a) (k : lk_W l X M d (pc + 1) L (lk_vi (nI (a - b)) :: S) σ τ Q) : lk_W l X M d pc L (lk_vi (nI b) :: lk_vi (nI a) :: S) σ τ Q := lk_isub hd (by rw [lk_nI_sub h]; exact k)
theorem lk_nI_mul (a b : Nat) : nI a * nI b = nI (a * b) := (Int32.ofNat_mul a b).symm
theorem lk_imulN {a b : Nat} (hd : decode M.2.1 pc = .ok (.imul, 1)) (k : lk_W l X M d (pc + 1) L (lk_vi (nI (a * b)) :: S) σ τ Q) : lk_W l X M d pc L (lk_vi (nI b) :: lk_vi (nI a) :: S) σ τ Q := lk_imul hd (by rw [lk_nI_mul]; exact k)
theorem lk_iincN {i a m : Nat} {L' : List (Nat × lk_V)} (hd : decode M.2.1 pc = .ok (.iinc i (m : Int), 3)) (hi : lk_get L i = some (lk_vi (nI a))) (_ : True = True) (hn : i < M.2.2.1) (hL : lk_st1 L i (lk_vi (nI (a + m))) = L') (k : lk_W l X M d (pc + 3) L' S σ τ Q) : lk_W l X M d pc L S σ τ Q :=
  lk_iinc hd hi (v := nI (a + m)) (by rw [← nI_add]; rfl) hn hL k
theorem lk_idecN {i a m : Nat} {L' : List (Nat × lk_V)} (hd : decode M.2.1 pc = .ok (.iinc i (-(m : Int)), 3)) (hi : lk_get L i = some (lk_vi (nI a))) (_ : True = True) (h : m ≤ a) (hn : i < M.2.2.1) (hL : lk_st1 L i (lk_vi (nI (a - m))) = L') (k : lk_W l X M d (pc + 3) L' S σ τ Q) : lk_W l X M d pc L S σ τ Q := by
  refine lk_iinc hd hi (v := nI (a - m)) ?_ hn hL k
  rw [← lk_nI_sub h, Int32.sub_eq_add_neg]
  congr 1
  show Int32.ofInt (-(m : Int)) = - Int32.ofNat m
  rw [Int32.ofInt_neg]; rfl
theorem lk_ialdN {o f ci n i : Nat} (hd : decode M.2.1 pc = .ok (.iaload, 1)) (hc : lk_ko o = ci) (hci : ci < 10) (hk : lk_fk ci f = (2, n)) (hin : i < n) (hn : n ≤ 1000) (k : lk_W l X M d (pc + 1) L (lk_vi (σ o f i) :: S) σ τ Q) : lk_W l X M d pc L (lk_vi (nI i) :: lk_vr o (f + 1) :: S) σ τ Q :=
  lk_iald hd hc hci hk (lk_inN hin hn) (by rw [nI_clamp (by omega)]; exact k)
theorem lk_zaldN {o f ci n i : Nat} (hd : decode M.2.1 pc = .ok (.baload, 1)) (hc : lk_ko o = ci) (hci : ci < 10) (hk : lk_fk ci f = (3, n)) (hin : i < n) (hn : n ≤ 1000) (k : lk_W l X M d (pc + 1) L (lk_vi (σ o f i) :: S) σ τ Q) : lk_W l X M d pc L (lk_vi (nI i) :: lk_vr o (f + 1) :: S) σ τ Q :=
  lk_zald hd hc hci hk (lk_inN hin hn) (by rw [nI_clamp (by omega)]; exact k)
theorem lk_iastN {o f ci n i : Nat} {v : Int32} (hd : decode M.2.1 pc = .ok (.iastore, 1)) (hc : lk_ko o = ci) (hci : ci < 10) (hk : lk_fk ci f = (2, n)) (hin : i < n) (hn : n ≤ 1000) (k : lk_W l X M d (pc + 1) L S (lk_up σ o f i v) τ Q) : lk_W l X M d pc L (lk_vi v :: lk_vi (nI i) :: lk_vr o (f + 1) :: S) σ τ Q :=
  lk_iast hd hc hci hk (lk_inN hin hn) (by rw [nI_clamp (by omega)]; exact k)
theorem lk_zastN {o f ci n i : Nat} {v : Int32} (hd : decode M.2.1 pc = .ok (.bastore, 1)) (hc : lk_ko o = ci) (hci : ci < 10) (hk : lk_fk ci f = (3, n)) (hin : i < n) (hn : n ≤ 1000) (hv : v = 0 ∨ v = 1) (k : lk_W l X M d (pc + 1) L S (lk_up σ o f i v) τ Q) : lk_W l X M d pc L (lk_vi v :: lk_vi (nI i) :: lk_vr o (f + 1) :: S) σ τ Q :=
  lk_zast hd hc hci hk (lk_inN hin hn) hv (by rw [nI_clamp (by omega)]; exact k)
theorem lk_tableOut {dflt lo hi : Int} {offs : Array Int} {len : Nat} {x : Int32} {tgt : Nat} (hd : decode M.2.1 pc = .ok (.tableswitch dflt lo hi offs, len)) (h : x.toInt < lo ∨ hi < x.toInt) (ht : (pc : Int) + dflt = (tgt : Int)) (k : lk_W l X M d tgt L S σ τ Q) : lk_W l X M d pc L (lk_vi x :: S) σ τ Q :=
  fun p e s m args below meth c H locs ls C hP hD hS hl => lv_tableOut C.1 C.2.1 hd h ht (k p e s m args below meth c H locs ls C hP hD hS hl)
theorem lk_tableIn {dflt lo hi : Int} {offs : Array Int} {len : Nat} {x : Int32} {off : Int} {tgt : Nat} (hd : decode M.2.1 pc = .ok (.tableswitch dflt lo hi offs, len)) (h1 : ¬ x.toInt < lo) (h2 : ¬ hi < x.toInt) (ho : offs[(x.toInt - lo).toNat]? = some off) (ht : (pc : Int) + off = (tgt : Int)) (k : lk_W l X M d tgt L S σ τ Q) : lk_W l X M d pc L (lk_vi x :: S) σ τ Q :=
  fun p e s m args below meth c H locs ls C hP hD hS hl => lv_tableIn C.1 C.2.1 hd h1 h2 ho ht (k p e s m args below meth c H locs ls C hP hD hS hl)
theorem lk_lookup {dflt : Int} {ps : Array (Int × Int)} {len : Nat} {x : Int32} {off : Int} {tgt : Nat} (hd : decode M.2.1 pc = .ok (.lookupswitch dflt ps, len)) (hp : (ps.toList.zip (ps.toList.drop 1)).all (fun (a, next) => a.1 < next.1) = true) (ho : Op.lookupswitch.offset ps.toList dflt x.toInt = off) (ht : (pc : Int) + off = (tgt : Int)) (k : lk_W l X M d tgt L S σ τ Q) : lk_W l X M d pc L (lk_vi x :: S) σ τ Q :=
  fun p e s m args below meth c H locs ls C hP hD hS hl => lv_lookup C.1 C.2.1 hd hp ho ht (k p e s m args below meth c H locs ls C hP hD hS hl)
theorem lk_if_eqB {P : Prop} {i : Decidable P} {off : Int} {tgt : Nat} (hd : decode M.2.1 pc = .ok (.ifCond .eq off, 3)) (ht : (pc : Int) + off = (tgt : Int)) (kt : ¬ P → lk_W l X M d tgt L S σ τ Q) (kf : P → lk_W l X M d (pc + 3) L S σ τ Q) : lk_W l X M d pc L (lk_vi (@ite Int32 P i 1 0) :: S) σ τ Q :=
  lk_if_eq hd ht (fun h => kt (fun z => by rw [if_pos z] at h; cases h)) (fun h => kf (by by_cases z : P; exact z; rw [if_neg z] at h; exact absurd rfl h))
theorem lk_if_neB {P : Prop} {i : Decidable P} {off : Int} {tgt : Nat} (hd : decode M.2.1 pc = .ok (.ifCond .ne off, 3)) (ht : (pc : Int) + off = (tgt : Int)) (kt : P → lk_W l X M d tgt L S σ τ Q) (kf : ¬ P → lk_W l X M d (pc + 3) L S σ τ Q) : lk_W l X M d pc L (lk_vi (@ite Int32 P i 1 0) :: S) σ τ Q :=
  lk_if_ne hd ht (fun h => kt (by by_cases z : P; exact z; rw [if_neg z] at h; exact absurd rfl h)) (fun h => kf (fun z => by rw [if_pos z] at h; cases h))
theorem lk_icmp_eqN {a b : Nat} {off : Int} {tgt : Nat} (hd : decode M.2.1 pc = .ok (.if_icmp .eq off, 3)) (ht : (pc : Int) + off = (tgt : Int)) (ha : a < 2 ^ 31) (hb : b < 2 ^ 31) (kt : a = b → lk_W l X M d tgt L S σ τ Q) (kf : ¬ a = b → lk_W l X M d (pc + 3) L S σ τ Q) : lk_W l X M d pc L (lk_vi (nI b) :: lk_vi (nI a) :: S) σ τ Q :=
  lk_icmp_eq hd ht (fun h => kt ((nI_eq ha hb).mp h)) (fun h => kf (fun z => h ((nI_eq ha hb).mpr z)))
theorem lk_if_eqN {a : Nat} {off : Int} {tgt : Nat} (hd : decode M.2.1 pc = .ok (.ifCond .eq off, 3)) (ht : (pc : Int) + off = (tgt : Int)) (ha : a < 2 ^ 31) (kt : a = 0 → lk_W l X M d tgt L S σ τ Q) (kf : ¬ a = 0 → lk_W l X M d (pc + 3) L S σ τ Q) : lk_W l X M d pc L (lk_vi (nI a) :: S) σ τ Q :=
  lk_if_eq hd ht (fun h => kt ((nI_eq ha (show 0 < 2 ^ 31 by decide)).mp h)) (fun h => kf (fun z => h ((nI_eq ha (show 0 < 2 ^ 31 by decide)).mpr z)))
theorem lk_icmp_neN {a b : Nat} {off : Int} {tgt : Nat} (hd : decode M.2.1 pc = .ok (.if_icmp .ne off, 3)) (ht : (pc : Int) + off = (tgt : Int)) (ha : a < 2 ^ 31) (hb : b < 2 ^ 31) (kt : ¬ a = b → lk_W l X M d tgt L S σ τ Q) (kf : a = b → lk_W l X M d (pc + 3) L S σ τ Q) : lk_W l X M d pc L (lk_vi (nI b) :: lk_vi (nI a) :: S) σ τ Q :=
  lk_icmp_ne hd ht (fun h => kt (fun z => h ((nI_eq ha hb).mpr z))) (fun h => kf ((nI_eq ha hb).mp h))
theorem lk_if_neN {a : Nat} {off : Int} {tgt : Nat} (hd : decode M.2.1 pc = .ok (.ifCond .ne off, 3)) (ht : (pc : Int) + off = (tgt : Int)) (ha : a < 2 ^ 31) (kt : ¬ a = 0 → lk_W l X M d tgt L S σ τ Q) (kf : a = 0 → lk_W l X M d (pc + 3) L S σ τ Q) : lk_W l X M d pc L (lk_vi (nI a) :: S) σ τ Q :=
  lk_if_ne hd ht (fun h => kt (fun z => h ((nI_eq ha (show 0 < 2 ^ 31 by decide)).mpr z))) (fun h => kf ((nI_eq ha (show 0 < 2 ^ 31 by decide)).mp h))
theorem lk_icmp_ltN {a b : Nat} {off : Int} {tgt : Nat} (hd : decode M.2.1 pc = .ok (.if_icmp .lt off, 3)) (ht : (pc : Int) + off = (tgt : Int)) (ha : a < 2 ^ 31) (hb : b < 2 ^ 31) (kt : a < b → lk_W l X M d tgt L S σ τ Q) (kf : ¬ a < b → lk_W l X M d (pc + 3) L S σ τ Q) : lk_W l X M d pc L (lk_vi (nI b) :: lk_vi (nI a) :: S) σ τ Q :=
  lk_icmp_lt hd ht (fun h => kt ((nI_ltI ha hb).mp h)) (fun h => kf (fun z => h ((nI_ltI ha hb).mpr z)))
theorem lk_if_ltN {a : Nat} {off : Int} {tgt : Nat} (hd : decode M.2.1 pc = .ok (.ifCond .lt off, 3)) (ht : (pc : Int) + off = (tgt : Int)) (ha : a < 2 ^ 31) (kt : a < 0 → lk_W l X M d tgt L S σ τ Q) (kf : ¬ a < 0 → lk_W l X M d (pc + 3) L S σ τ Q) : lk_W l X M d pc L (lk_vi (nI a) :: S) σ τ Q :=
  lk_if_lt hd ht (fun h => kt ((nI_ltI ha (show 0 < 2 ^ 31 by decide)).mp h)) (fun h => kf (fun z => h ((nI_ltI ha (show 0 < 2 ^ 31 by decide)).mpr z)))
theorem lk_icmp_geN {a b : Nat} {off : Int} {tgt : Nat} (hd : decode M.2.1 pc = .ok (.if_icmp .ge off, 3)) (ht : (pc : Int) + off = (tgt : Int)) (ha : a < 2 ^ 31) (hb : b < 2 ^ 31) (kt : b ≤ a → lk_W l X M d tgt L S σ τ Q) (kf : ¬ b ≤ a → lk_W l X M d (pc + 3) L S σ τ Q) : lk_W l X M d pc L (lk_vi (nI b) :: lk_vi (nI a) :: S) σ τ Q :=
  lk_icmp_ge hd ht (fun h => kt ((nI_leI hb ha).mp h)) (fun h => kf (fun z => h ((nI_leI hb ha).mpr z)))
theorem lk_if_geN {a : Nat} {off : Int} {tgt : Nat} (hd : decode M.2.1 pc = .ok (.ifCond .ge off, 3)) (ht : (pc : Int) + off = (tgt : Int)) (ha : a < 2 ^ 31) (kt : 0 ≤ a → lk_W l X M d tgt L S σ τ Q) (kf : ¬ 0 ≤ a → lk_W l X M d (pc + 3) L S σ τ Q) : lk_W l X M d pc L (lk_vi (nI a) :: S) σ τ Q :=
  lk_if_ge hd ht (fun h => kt ((nI_leI (show 0 < 2 ^ 31 by decide) ha).mp h)) (fun h => kf (fun z => h ((nI_leI (show 0 < 2 ^ 31 by decide) ha).mpr z)))
theorem lk_icmp_gtN {a b : Nat} {off : Int} {tgt : Nat} (hd : decode M.2.1 pc = .ok (.if_icmp .gt off, 3)) (ht : (pc : Int) + off = (tgt : Int)) (ha : a < 2 ^ 31) (hb : b < 2 ^ 31) (kt : b < a → lk_W l X M d tgt L S σ τ Q) (kf : ¬ b < a → lk_W l X M d (pc + 3) L S σ τ Q) : lk_W l X M d pc L (lk_vi (nI b) :: lk_vi (nI a) :: S) σ τ Q :=
  lk_icmp_gt hd ht (fun h => kt ((nI_ltI hb ha).mp h)) (fun h => kf (fun z => h ((nI_ltI hb ha).mpr z)))
theorem lk_if_gtN {a : Nat} {off : Int} {tgt : Nat} (hd : decode M.2.1 pc = .ok (.ifCond .gt off, 3)) (ht : (pc : Int) + off = (tgt : Int)) (ha : a < 2 ^ 31) (kt : 0 < a → lk_W l X M d tgt L S σ τ Q) (kf : ¬ 0 < a → lk_W l X M d (pc + 3) L S σ τ Q) : lk_W l X M d pc L (lk_vi (nI a) :: S) σ τ Q :=
  lk_if_gt hd ht (fun h => kt ((nI_ltI (show 0 < 2 ^ 31 by decide) ha).mp h)) (fun h => kf (fun z => h ((nI_ltI (show 0 < 2 ^ 31 by decide) ha).mpr z)))
theorem lk_icmp_leN {a b : Nat} {off : Int} {tgt : Nat} (hd : decode M.2.1 pc = .ok (.if_icmp .le off, 3)) (ht : (pc : Int) + off = (tgt : Int)) (ha : a < 2 ^ 31) (hb : b < 2 ^ 31) (kt : a ≤ b → lk_W l X M d tgt L S σ τ Q) (kf : ¬ a ≤ b → lk_W l X M d (pc + 3) L S σ τ Q) : lk_W l X M d pc L (lk_vi (nI b) :: lk_vi (nI a) :: S) σ τ Q :=
  lk_icmp_le hd ht (fun h => kt ((nI_leI ha hb).mp h)) (fun h => kf (fun z => h ((nI_leI ha hb).mpr z)))
theorem lk_if_leN {a : Nat} {off : Int} {tgt : Nat} (hd : decode M.2.1 pc = .ok (.ifCond .le off, 3)) (ht : (pc : Int) + off = (tgt : Int)) (ha : a < 2 ^ 31) (kt : a ≤ 0 → lk_W l X M d tgt L S σ τ Q) (kf : ¬ a ≤ 0 → lk_W l X M d (pc + 3) L S σ τ Q) : lk_W l X M d pc L (lk_vi (nI a) :: S) σ τ Q :=
  lk_if_le hd ht (fun h => kt ((nI_leI ha (show 0 < 2 ^ 31 by decide)).mp h)) (fun h => kf (fun z => h ((nI_leI ha (show 0 < 2 ^ 31 by decide)).mpr z)))
end LKN
end
section
/-! WHAT A CANAL DOES, in numbers: an object's numbers are a function of field and place -/
abbrev lk_O : Type := Nat → Nat → Int32
def lk_ou (V : lk_O) (f i : Nat) (v : Int32) : lk_O := fun f' i' => if f' = f ∧ i' = i then v else V f' i'
def lk_so (σ : lk_N) (o : Nat) (V : lk_O) : lk_N := fun o' => if o' = o then V else σ o'
theorem lk_so_eq (σ : lk_N) (o : Nat) (V : lk_O) : lk_so σ o V o = V := by simp [lk_so]
theorem lk_so_ne {σ : lk_N} {o o' : Nat} {V : lk_O} (h : o' ≠ o) : lk_so σ o V o' = σ o' := by simp [lk_so, h]
theorem lk_so_so (σ : lk_N) (o : Nat) (V W : lk_O) : lk_so (lk_so σ o V) o W = lk_so σ o W := by
  funext o'
  by_cases h : o' = o <;> simp [lk_so, h]
theorem lk_so_self (σ : lk_N) (o : Nat) : lk_so σ o (σ o) = σ := by
  funext o'
  by_cases h : o' = o <;> simp [lk_so, h]
theorem lk_so_comm {σ : lk_N} {o o' : Nat} {V W : lk_O} (h : o ≠ o') : lk_so (lk_so σ o V) o' W = lk_so (lk_so σ o' W) o V := by
  funext a
  by_cases h1 : a = o
  · by_cases h2 : a = o'
    · exact absurd (h1.symm.trans h2) h
    · subst h1; simp [lk_so, h2]
  · by_cases h2 : a = o' <;> simp [lk_so, h1, h2, Ne.symm h]
theorem lk_up_so (σ : lk_N) (o f i : Nat) (v : Int32) : lk_up σ o f i v = lk_so σ o (lk_ou (σ o) f i v) := by
  funext a b c
  by_cases h : a = o
  · subst h; simp [lk_up, lk_so, lk_ou]
  · simp [lk_up, lk_so, h]
theorem lk_ou_eq (V : lk_O) (f i : Nat) (v : Int32) : lk_ou V f i v f i = v := by simp [lk_ou]
theorem lk_ou_ne {V : lk_O} {f i f' i' : Nat} {v : Int32} (h : ¬ (f' = f ∧ i' = i)) : lk_ou V f i v f' i' = V f' i' := by simp [lk_ou, h]
theorem lk_ou_self (V : lk_O) (f i : Nat) : lk_ou V f i (V f i) = V := by
  funext a b
  by_cases h : a = f ∧ b = i
  · obtain ⟨rfl, rfl⟩ := h; simp [lk_ou]
  · simp [lk_ou, h]
/-- a step by which a reach's water changes by g: within its least and its most -/
def lk_chk (V : lk_O) (r : Nat) (g : Int32) : Bool := decide (V 7 r ≤ V 6 r + g) && decide (V 6 r + g ≤ V 8 r)
def lk_side (V : lk_O) (r : Nat) (g : Int32) : Int32 := if V 6 r + g < V 7 r then 1 else 2
def lk_shr (V : lk_O) (k : Nat) : Int32 := V 2 k * V 3 k / (V 3 k + 2)
abbrev lk_P : Type := lk_O ⊕ (Int32 × Nat × Int32)
def lk_fil (V : lk_O) (k : Nat) : lk_P :=
  if lk_chk V (k + 1) (0 - (V 2 k - V 4 k)) = true then .inl (lk_ou (lk_ou (lk_ou V 6 (k + 1) (V 6 (k + 1) - (V 2 k - V 4 k))) 4 k 0) 5 k 1)
  else .inr (2, k + 1, lk_side V (k + 1) (0 - (V 2 k - V 4 k)))
def lk_emp (V : lk_O) (k : Nat) : lk_P :=
  if lk_chk V k (V 2 k - lk_shr V k) = true then .inl (lk_ou (lk_ou (lk_ou V 6 k (V 6 k + (V 2 k - lk_shr V k))) 4 k (lk_shr V k)) 5 k 0)
  else .inr (1, k, lk_side V k (V 2 k - lk_shr V k))
def lk_swp (V : lk_O) (k : Nat) (z : Int32) : lk_P :=
  if lk_chk V (k + 1) (0 - z) = true then
    (if lk_chk V k z = true then .inl (lk_ou (lk_ou V 6 (k + 1) (V 6 (k + 1) - z)) 6 k (V 6 k + z)) else .inr (3, k, lk_side V k z))
  else .inr (3, k + 1, lk_side V (k + 1) (0 - z))
def lk_sb (p : lk_P) (f : lk_O → lk_P) : lk_P := match p with
  | .inl V => f V
  | .inr q => .inr q
def lk_pas (V : lk_O) (k : Nat) (up : Bool) (z : Int32) : lk_P := match up with
  | true => lk_sb (lk_sb (if V 5 k = 0 then .inl V else lk_emp V k) (fun V => lk_fil V k)) (fun V => lk_swp V k z)
  | false => lk_sb (lk_sb (if V 5 k = 0 then lk_fil V k else .inl V) (fun V => lk_emp V k)) (fun V => lk_swp V k (0 - z))
/-- the cause, told -/
def lk_kau (K : lk_O) (k : Int32) (q : Int32 × Nat × Int32) : lk_O := lk_ou (lk_ou (lk_ou (lk_ou (lk_ou K 0 0 1) 1 0 k) 2 0 q.1) 3 0 (nI q.2.1)) 4 0 q.2.2
/-- two states of a canal that differ by what passages through lock k change, at most -/
def lk_near (V V' : lk_O) (k : Nat) : Prop := ∀ f i, ¬ (f = 6 ∧ (i = k ∨ i = k + 1)) → ¬ (f = 4 ∧ i = k) → ¬ (f = 5 ∧ i = k) → V' f i = V f i
theorem lk_near_rf (V : lk_O) (k : Nat) : lk_near V V k := fun _ _ _ _ _ => rfl
theorem lk_near_tr {V V' V'' : lk_O} {k : Nat} (h : lk_near V V' k) (h2 : lk_near V' V'' k) : lk_near V V'' k := fun f i a b c => (h2 f i a b c).trans (h f i a b c)
theorem lk_fil_near {V V' : lk_O} {k : Nat} (h : lk_fil V k = .inl V') : lk_near V V' k := by
  unfold lk_fil at h
  split at h
  · cases h
    intro f i a b c
    rw [lk_ou_ne c, lk_ou_ne b, lk_ou_ne (fun z => a ⟨z.1, Or.inr z.2⟩)]
  · cases h
theorem lk_emp_near {V V' : lk_O} {k : Nat} (h : lk_emp V k = .inl V') : lk_near V V' k := by
  unfold lk_emp at h
  split at h
  · cases h
    intro f i a b c
    rw [lk_ou_ne c, lk_ou_ne b, lk_ou_ne (fun z => a ⟨z.1, Or.inl z.2⟩)]
  · cases h
theorem lk_swp_near {V V' : lk_O} {k : Nat} {z : Int32} (h : lk_swp V k z = .inl V') : lk_near V V' k := by
  unfold lk_swp at h
  split at h
  · split at h
    · cases h
      intro f i a b c
      rw [lk_ou_ne (fun z => a ⟨z.1, Or.inl z.2⟩), lk_ou_ne (fun z => a ⟨z.1, Or.inr z.2⟩)]
    · cases h
  · cases h
/-- put back -/
theorem lk_near_back {V V' : lk_O} {k : Nat} (h : lk_near V V' k) : lk_ou (lk_ou (lk_ou (lk_ou V' 6 k (V 6 k)) 6 (k + 1) (V 6 (k + 1))) 4 k (V 4 k)) 5 k (V 5 k) = V := by
  funext f i
  by_cases h5 : f = 5 ∧ i = k
  · obtain ⟨rfl, rfl⟩ := h5; rw [lk_ou_eq]
  rw [lk_ou_ne h5]
  by_cases h4 : f = 4 ∧ i = k
  · obtain ⟨rfl, rfl⟩ := h4; rw [lk_ou_eq]
  rw [lk_ou_ne h4]
  by_cases h6 : f = 6 ∧ i = k + 1
  · obtain ⟨rfl, rfl⟩ := h6; rw [lk_ou_eq]
  rw [lk_ou_ne h6]
  by_cases h7 : f = 6 ∧ i = k
  · obtain ⟨rfl, rfl⟩ := h7; rw [lk_ou_eq]
  rw [lk_ou_ne h7]
  exact h f i (fun z => z.2.elim (fun y => h7 ⟨z.1, y⟩) (fun y => h6 ⟨z.1, y⟩)) h4 h5
/-- one more of this SPENT in the tally -/
def lk_tad (T : lk_O) (s : Int32) : lk_O := if s < -9 ∨ 108 < s then T else lk_ou T 0 (s - -9).toNatClampNeg (T 0 (s - -9).toNatClampNeg + 1)
def lk_paR (V : lk_O) (k : Nat) (p : lk_P) : Int32 := match p with
  | .inl V' => V 6 (k + 1) - V' 6 (k + 1)
  | .inr _ => -2000002
def lk_paS (σ : lk_N) (c k : Nat) (p : lk_P) : lk_N := match p with
  | .inl V' => lk_so (lk_so σ c V') (c + 1) (lk_tad (σ (c + 1)) (σ c 6 (k + 1) - V' 6 (k + 1)))
  | .inr q => lk_so σ (c + 2) (lk_kau (σ (c + 2)) (nI k) q)
end
section
theorem lk_chkL {V : lk_O} {r : Nat} {g : Int32} (h : lk_chk V r g = true) : V 7 r ≤ V 6 r + g := by
  simp only [lk_chk, Bool.and_eq_true, decide_eq_true_eq] at h; exact h.1
theorem lk_chkM {V : lk_O} {r : Nat} {g : Int32} (h : lk_chk V r g = true) : V 6 r + g ≤ V 8 r := by
  simp only [lk_chk, Bool.and_eq_true, decide_eq_true_eq] at h; exact h.2
theorem lk_chkN {V : lk_O} {r : Nat} {g : Int32} (h : ¬ V 6 r + g < V 7 r) (h2 : ¬ V 8 r < V 6 r + g) : lk_chk V r g = true := by
  simp only [lk_chk, Bool.and_eq_true, decide_eq_true_eq]; exact ⟨Int32.not_lt.mp h, Int32.not_lt.mp h2⟩
set_option maxHeartbeats 4000000 in
set_option maxRecDepth 100000 in
theorem tX0_hasLock_in (l : Launch) (X : lk_G) (d : Nat) (σ : lk_N) (τ : lk_T) (c : Nat) (hc : lk_ko c = 0) (n k : Nat) (hn : σ c 0 0 = nI n) (hk : k < n) (hn6 : n ≤ 6) : lk_Mt l X mX0_hasLock d [lk_vr c 0, lk_vi (nI (k))] σ τ (fun rr σ1 τ1 => rr = some (lk_vi 1) ∧ σ1 = σ ∧ τ1 = τ) := by
  refine lk_met (L := [(0, lk_vr c 0), (1, lk_vi (nI (k)))]) (by decide +kernel) (Nat.le_of_ble_eq_true rfl) rfl ?_
  obtain ⟨Q, hQ⟩ : ∃ Q : lk_Q, Q = fun rr σ1 τ1 => rr = some (lk_vi 1) ∧ σ1 = σ ∧ τ1 = τ := ⟨_, rfl⟩
  rw [← hQ]
  refine lk_iload_n dX0_hasLock_0 rfl rfl ?_
  refine lk_if_ltN (a := k) (tgt := 16) dX0_hasLock_1 (by decide) (by omega) (fun h1 => absurd h1 (by omega)) (fun h1 => ?_)
  refine lk_iload_n dX0_hasLock_4 rfl rfl ?_
  refine lk_aload_n dX0_hasLock_5 rfl rfl ?_
  refine lk_getIv (v := nI (n)) (f := 0) dX0_hasLock_6 hc fX0_51 (by decide) (by decide) hn ?_
  refine lk_icmp_geN (a := k) (b := n) (tgt := 16) dX0_hasLock_9 (by decide) (by omega) (by omega) (fun h2 => absurd h2 (by omega)) (fun h2 => ?_)
  refine lk_iconst (v := 1) dX0_hasLock_12 (by decide) ?_
  refine lk_goto (tgt := 17) dX0_hasLock_13 (by decide) ?_
  refine lk_iret .boolean dX0_hasLock_17 rfl rfl ?_
  rw [hQ]
  exact ⟨by first | rfl | (simp [*]; done) | (simp_all; done) | grind, by first | rfl | (simp [*]; done), rfl⟩

set_option maxHeartbeats 4000000 in
set_option maxRecDepth 100000 in
theorem tX0_hasLock_out (l : Launch) (X : lk_G) (d : Nat) (σ : lk_N) (τ : lk_T) (c : Nat) (hc : lk_ko c = 0) (k : Int32) (hk : k < 0 ∨ σ c 0 0 ≤ k) : lk_Mt l X mX0_hasLock d [lk_vr c 0, lk_vi (k)] σ τ (fun rr σ1 τ1 => rr = some (lk_vi 0) ∧ σ1 = σ ∧ τ1 = τ) := by
  refine lk_met (L := [(0, lk_vr c 0), (1, lk_vi (k))]) (by decide +kernel) (Nat.le_of_ble_eq_true rfl) rfl ?_
  obtain ⟨Q, hQ⟩ : ∃ Q : lk_Q, Q = fun rr σ1 τ1 => rr = some (lk_vi 0) ∧ σ1 = σ ∧ τ1 = τ := ⟨_, rfl⟩
  rw [← hQ]
  refine lk_iload_n dX0_hasLock_0 rfl rfl ?_
  refine lk_if_lt (tgt := 16) dX0_hasLock_1 (by decide) (fun h1 => ?_) (fun h1 => ?_)
  ·
    refine lk_iconst (v := 0) dX0_hasLock_16 (by decide) ?_
    refine lk_iret .boolean dX0_hasLock_17 rfl rfl ?_
    rw [hQ]
    first | exact ⟨rfl, rfl, rfl⟩ | (exfalso; simp_all [Int32.not_lt, Int32.not_le]; done)
  ·
    refine lk_iload_n dX0_hasLock_4 rfl rfl ?_
    refine lk_aload_n dX0_hasLock_5 rfl rfl ?_
    refine lk_getI (f := 0) dX0_hasLock_6 hc fX0_51 (by decide) (by decide) ?_
    refine lk_icmp_ge (tgt := 16) dX0_hasLock_9 (by decide) (fun h2 => ?_) (fun h2 => ?_)
    ·
      refine lk_iconst (v := 0) dX0_hasLock_16 (by decide) ?_
      refine lk_iret .boolean dX0_hasLock_17 rfl rfl ?_
      rw [hQ]
      first | exact ⟨rfl, rfl, rfl⟩ | (exfalso; simp_all [Int32.not_lt, Int32.not_le]; done)
    ·
      refine lk_iconst (v := 1) dX0_hasLock_12 (by decide) ?_
      refine lk_goto (tgt := 17) dX0_hasLock_13 (by decide) ?_
      refine lk_iret .boolean dX0_hasLock_17 rfl rfl ?_
      rw [hQ]
      first | exact ⟨rfl, rfl, rfl⟩ | (exfalso; simp_all [Int32.not_lt, Int32.not_le]; done)

set_option maxHeartbeats 4000000 in
set_option maxRecDepth 100000 in
theorem tX0_hasReach_in (l : Launch) (X : lk_G) (d : Nat) (σ : lk_N) (τ : lk_T) (c : Nat) (hc : lk_ko c = 0) (n k : Nat) (hn : σ c 0 0 = nI n) (hk : k ≤ n) (hn6 : n ≤ 6) : lk_Mt l X mX0_hasReach d [lk_vr c 0, lk_vi (nI (k))] σ τ (fun rr σ1 τ1 => rr = some (lk_vi 1) ∧ σ1 = σ ∧ τ1 = τ) := by
  refine lk_met (L := [(0, lk_vr c 0), (1, lk_vi (nI (k)))]) (by decide +kernel) (Nat.le_of_ble_eq_true rfl) rfl ?_
  obtain ⟨Q, hQ⟩ : ∃ Q : lk_Q, Q = fun rr σ1 τ1 => rr = some (lk_vi 1) ∧ σ1 = σ ∧ τ1 = τ := ⟨_, rfl⟩
  rw [← hQ]
  refine lk_iload_n dX0_hasReach_0 rfl rfl ?_
  refine lk_if_ltN (a := k) (tgt := 16) dX0_hasReach_1 (by decide) (by omega) (fun h1 => absurd h1 (by omega)) (fun h1 => ?_)
  refine lk_iload_n dX0_hasReach_4 rfl rfl ?_
  refine lk_aload_n dX0_hasReach_5 rfl rfl ?_
  refine lk_getIv (v := nI (n)) (f := 0) dX0_hasReach_6 hc fX0_51 (by decide) (by decide) hn ?_
  refine lk_icmp_gtN (a := k) (b := n) (tgt := 16) dX0_hasReach_9 (by decide) (by omega) (by omega) (fun h2 => absurd h2 (by omega)) (fun h2 => ?_)
  refine lk_iconst (v := 1) dX0_hasReach_12 (by decide) ?_
  refine lk_goto (tgt := 17) dX0_hasReach_13 (by decide) ?_
  refine lk_iret .boolean dX0_hasReach_17 rfl rfl ?_
  rw [hQ]
  exact ⟨by first | rfl | (simp [*]; done) | (simp_all; done) | grind, by first | rfl | (simp [*]; done), rfl⟩

set_option maxHeartbeats 4000000 in
set_option maxRecDepth 100000 in
theorem tX0_hasReach_out (l : Launch) (X : lk_G) (d : Nat) (σ : lk_N) (τ : lk_T) (c : Nat) (hc : lk_ko c = 0) (k : Int32) (hk : k < 0 ∨ σ c 0 0 < k) : lk_Mt l X mX0_hasReach d [lk_vr c 0, lk_vi (k)] σ τ (fun rr σ1 τ1 => rr = some (lk_vi 0) ∧ σ1 = σ ∧ τ1 = τ) := by
  refine lk_met (L := [(0, lk_vr c 0), (1, lk_vi (k))]) (by decide +kernel) (Nat.le_of_ble_eq_true rfl) rfl ?_
  obtain ⟨Q, hQ⟩ : ∃ Q : lk_Q, Q = fun rr σ1 τ1 => rr = some (lk_vi 0) ∧ σ1 = σ ∧ τ1 = τ := ⟨_, rfl⟩
  rw [← hQ]
  refine lk_iload_n dX0_hasReach_0 rfl rfl ?_
  refine lk_if_lt (tgt := 16) dX0_hasReach_1 (by decide) (fun h1 => ?_) (fun h1 => ?_)
  ·
    refine lk_iconst (v := 0) dX0_hasReach_16 (by decide) ?_
    refine lk_iret .boolean dX0_hasReach_17 rfl rfl ?_
    rw [hQ]
    first | exact ⟨rfl, rfl, rfl⟩ | (exfalso; simp_all [Int32.not_lt, Int32.not_le]; done)
  ·
    refine lk_iload_n dX0_hasReach_4 rfl rfl ?_
    refine lk_aload_n dX0_hasReach_5 rfl rfl ?_
    refine lk_getI (f := 0) dX0_hasReach_6 hc fX0_51 (by decide) (by decide) ?_
    refine lk_icmp_gt (tgt := 16) dX0_hasReach_9 (by decide) (fun h2 => ?_) (fun h2 => ?_)
    ·
      refine lk_iconst (v := 0) dX0_hasReach_16 (by decide) ?_
      refine lk_iret .boolean dX0_hasReach_17 rfl rfl ?_
      rw [hQ]
      first | exact ⟨rfl, rfl, rfl⟩ | (exfalso; simp_all [Int32.not_lt, Int32.not_le]; done)
    ·
      refine lk_iconst (v := 1) dX0_hasReach_12 (by decide) ?_
      refine lk_goto (tgt := 17) dX0_hasReach_13 (by decide) ?_
      refine lk_iret .boolean dX0_hasReach_17 rfl rfl ?_
      rw [hQ]
      first | exact ⟨rfl, rfl, rfl⟩ | (exfalso; simp_all [Int32.not_lt, Int32.not_le]; done)

set_option maxHeartbeats 4000000 in
set_option maxRecDepth 100000 in
theorem tX0_isAtRest (l : Launch) (X : lk_G) (d : Nat) (σ : lk_N) (τ : lk_T) (c : Nat) (hc : lk_ko c = 0) (k : Nat) (hk : k < 6) : lk_Mt l X mX0_isAtRest d [lk_vr c 0, lk_vi (nI (k))] σ τ (fun rr σ1 τ1 => rr = some (lk_vi (if σ c 5 k = 0 ∧ σ c 4 k = 0 then 1 else 0)) ∧ σ1 = σ ∧ τ1 = τ) := by
  refine lk_met (L := [(0, lk_vr c 0), (1, lk_vi (nI (k)))]) (by decide +kernel) (Nat.le_of_ble_eq_true rfl) rfl ?_
  obtain ⟨Q, hQ⟩ : ∃ Q : lk_Q, Q = fun rr σ1 τ1 => rr = some (lk_vi (if σ c 5 k = 0 ∧ σ c 4 k = 0 then 1 else 0)) ∧ σ1 = σ ∧ τ1 = τ := ⟨_, rfl⟩
  rw [← hQ]
  refine lk_aload_n dX0_isAtRest_0 rfl rfl ?_
  refine lk_getR (f := 5) dX0_isAtRest_1 hc fX0_21 (by decide) (by decide) ?_
  refine lk_iload_n dX0_isAtRest_4 rfl rfl ?_
  refine lk_zaldN (f := 5) (i := k) dX0_isAtRest_5 hc (by decide) rfl (by omega) (by decide) ?_
  refine lk_if_ne (tgt := 22) dX0_isAtRest_6 (by decide) (fun h1 => ?_) (fun h1 => ?_)
  ·
    refine lk_iconst (v := 0) dX0_isAtRest_22 (by decide) ?_
    refine lk_iret .boolean dX0_isAtRest_23 rfl rfl ?_
    rw [hQ]
    exact ⟨by first | rfl | (simp [*]; done) | (simp_all; done) | grind, by first | rfl | (simp [*]; done), rfl⟩
  ·
    refine lk_aload_n dX0_isAtRest_9 rfl rfl ?_
    refine lk_getR (f := 4) dX0_isAtRest_10 hc fX0_18 (by decide) (by decide) ?_
    refine lk_iload_n dX0_isAtRest_13 rfl rfl ?_
    refine lk_ialdN (f := 4) (i := k) dX0_isAtRest_14 hc (by decide) rfl (by omega) (by decide) ?_
    refine lk_if_ne (tgt := 22) dX0_isAtRest_15 (by decide) (fun h2 => ?_) (fun h2 => ?_)
    ·
      refine lk_iconst (v := 0) dX0_isAtRest_22 (by decide) ?_
      refine lk_iret .boolean dX0_isAtRest_23 rfl rfl ?_
      rw [hQ]
      exact ⟨by first | rfl | (simp [*]; done) | (simp_all; done) | grind, by first | rfl | (simp [*]; done), rfl⟩
    ·
      refine lk_iconst (v := 1) dX0_isAtRest_18 (by decide) ?_
      refine lk_goto (tgt := 23) dX0_isAtRest_19 (by decide) ?_
      refine lk_iret .boolean dX0_isAtRest_23 rfl rfl ?_
      rw [hQ]
      exact ⟨by first | rfl | (simp [*]; done) | (simp_all; done) | grind, by first | rfl | (simp [*]; done), rfl⟩

set_option maxHeartbeats 4000000 in
set_option maxRecDepth 100000 in
theorem tX0_share (l : Launch) (X : lk_G) (d : Nat) (σ : lk_N) (τ : lk_T) (c : Nat) (hc : lk_ko c = 0) (k : Nat) (hk : k < 6) (hp : ¬ σ c 3 k + 2 = 0) : lk_Mt l X mX0_share d [lk_vr c 0, lk_vi (nI (k))] σ τ (fun rr σ1 τ1 => rr = some (lk_vi (lk_shr (σ c) k)) ∧ σ1 = σ ∧ τ1 = τ) := by
  refine lk_met (L := [(0, lk_vr c 0), (1, lk_vi (nI (k)))]) (by decide +kernel) (Nat.le_of_ble_eq_true rfl) rfl ?_
  obtain ⟨Q, hQ⟩ : ∃ Q : lk_Q, Q = fun rr σ1 τ1 => rr = some (lk_vi (lk_shr (σ c) k)) ∧ σ1 = σ ∧ τ1 = τ := ⟨_, rfl⟩
  rw [← hQ]
  refine lk_aload_n dX0_share_0 rfl rfl ?_
  refine lk_getR (f := 2) dX0_share_1 hc fX0_9 (by decide) (by decide) ?_
  refine lk_iload_n dX0_share_4 rfl rfl ?_
  refine lk_ialdN (f := 2) (i := k) dX0_share_5 hc (by decide) rfl (by omega) (by decide) ?_
  refine lk_aload_n dX0_share_6 rfl rfl ?_
  refine lk_getR (f := 3) dX0_share_7 hc fX0_15 (by decide) (by decide) ?_
  refine lk_iload_n dX0_share_10 rfl rfl ?_
  refine lk_ialdN (f := 3) (i := k) dX0_share_11 hc (by decide) rfl (by omega) (by decide) ?_
  refine lk_imul dX0_share_12 ?_
  refine lk_aload_n dX0_share_13 rfl rfl ?_
  refine lk_getR (f := 3) dX0_share_14 hc fX0_15 (by decide) (by decide) ?_
  refine lk_iload_n dX0_share_17 rfl rfl ?_
  refine lk_ialdN (f := 3) (i := k) dX0_share_18 hc (by decide) rfl (by omega) (by decide) ?_
  refine lk_iconst (v := 2) dX0_share_19 (by decide) ?_
  refine lk_iadd dX0_share_20 ?_
  refine lk_idiv dX0_share_21 hp ?_
  refine lk_iret .int dX0_share_22 rfl rfl ?_
  rw [hQ]
  exact ⟨by first | rfl | (simp [*]; done) | (simp_all; done) | grind, by first | rfl | (simp [*]; done), rfl⟩

set_option maxHeartbeats 4000000 in
set_option maxRecDepth 100000 in
theorem tX0_lockFrom (l : Launch) (X : lk_G) (d : Nat) (σ : lk_N) (τ : lk_T) (r u : Int32) : lk_Mt l X mX0_lockFrom d [lk_vi (r), lk_vi (u)] σ τ (fun rr σ1 τ1 => rr = some (lk_vi (if u = 0 then r - 1 else r)) ∧ σ1 = σ ∧ τ1 = τ) := by
  refine lk_met (L := [(0, lk_vi (r)), (1, lk_vi (u))]) (by decide +kernel) (Nat.le_of_ble_eq_true rfl) rfl ?_
  obtain ⟨Q, hQ⟩ : ∃ Q : lk_Q, Q = fun rr σ1 τ1 => rr = some (lk_vi (if u = 0 then r - 1 else r)) ∧ σ1 = σ ∧ τ1 = τ := ⟨_, rfl⟩
  rw [← hQ]
  refine lk_iload_n dX0_lockFrom_0 rfl rfl ?_
  refine lk_if_eq (tgt := 8) dX0_lockFrom_1 (by decide) (fun h1 => ?_) (fun h1 => ?_)
  ·
    refine lk_iload_n dX0_lockFrom_8 rfl rfl ?_
    refine lk_iconst (v := 1) dX0_lockFrom_9 (by decide) ?_
    refine lk_isub dX0_lockFrom_10 ?_
    refine lk_iret .int dX0_lockFrom_11 rfl rfl ?_
    rw [hQ]
    exact ⟨by first | rfl | (simp [*]; done) | (simp_all; done) | grind, by first | rfl | (simp [*]; done), rfl⟩
  ·
    refine lk_iload_n dX0_lockFrom_4 rfl rfl ?_
    refine lk_goto (tgt := 11) dX0_lockFrom_5 (by decide) ?_
    refine lk_iret .int dX0_lockFrom_11 rfl rfl ?_
    rw [hQ]
    exact ⟨by first | rfl | (simp [*]; done) | (simp_all; done) | grind, by first | rfl | (simp [*]; done), rfl⟩

set_option maxHeartbeats 4000000 in
set_option maxRecDepth 100000 in
theorem tX0_isBarred_ok (l : Launch) (X : lk_G) (d : Nat) (σ : lk_N) (τ : lk_T) (c : Nat) (hc : lk_ko c = 0) (a s : Int32) (r : Nat) (g : Int32) (hr : r < 7) (h : lk_chk (σ c) r g = true) : lk_Mt l X mX0_isBarred d [lk_vr c 0, lk_vi (a), lk_vi (s), lk_vi (nI (r)), lk_vi (g)] σ τ (fun rr σ1 τ1 => rr = some (lk_vi 0) ∧ σ1 = σ ∧ τ1 = τ) := by
  refine lk_met (L := [(0, lk_vr c 0), (1, lk_vi (a)), (2, lk_vi (s)), (3, lk_vi (nI (r))), (4, lk_vi (g))]) (by decide +kernel) (Nat.le_of_ble_eq_true rfl) rfl ?_
  obtain ⟨Q, hQ⟩ : ∃ Q : lk_Q, Q = fun rr σ1 τ1 => rr = some (lk_vi 0) ∧ σ1 = σ ∧ τ1 = τ := ⟨_, rfl⟩
  rw [← hQ]
  refine lk_aload_n dX0_isBarred_0 rfl rfl ?_
  refine lk_getR (f := 6) dX0_isBarred_1 hc fX0_25 (by decide) (by decide) ?_
  refine lk_iload_n dX0_isBarred_4 rfl rfl ?_
  refine lk_ialdN (f := 6) (i := r) dX0_isBarred_5 hc (by decide) rfl (by omega) (by decide) ?_
  refine lk_iload dX0_isBarred_6 rfl ?_
  refine lk_iadd dX0_isBarred_8 ?_
  refine lk_istore (L' := [(0, lk_vr c 0), (1, lk_vi (a)), (2, lk_vi (s)), (3, lk_vi (nI (r))), (4, lk_vi (g)), (5, lk_vi ((σ c 6 (r)) + (g)))]) dX0_isBarred_9 (by decide +kernel) rfl ?_
  refine lk_iload dX0_isBarred_11 rfl ?_
  refine lk_aload_n dX0_isBarred_13 rfl rfl ?_
  refine lk_getR (f := 7) dX0_isBarred_14 hc fX0_28 (by decide) (by decide) ?_
  refine lk_iload_n dX0_isBarred_17 rfl rfl ?_
  refine lk_ialdN (f := 7) (i := r) dX0_isBarred_18 hc (by decide) rfl (by omega) (by decide) ?_
  refine lk_icmp_lt (tgt := 35) dX0_isBarred_19 (by decide) (fun h1 => absurd h1 (Int32.not_lt.mpr (lk_chkL h))) (fun h1 => ?_)
  refine lk_iload dX0_isBarred_22 rfl ?_
  refine lk_aload_n dX0_isBarred_24 rfl rfl ?_
  refine lk_getR (f := 8) dX0_isBarred_25 hc fX0_31 (by decide) (by decide) ?_
  refine lk_iload_n dX0_isBarred_28 rfl rfl ?_
  refine lk_ialdN (f := 8) (i := r) dX0_isBarred_29 hc (by decide) rfl (by omega) (by decide) ?_
  refine lk_icmp_gt (tgt := 35) dX0_isBarred_30 (by decide) (fun h2 => absurd h2 (Int32.not_lt.mpr (lk_chkM h))) (fun h2 => ?_)
  refine lk_iconst (v := 0) dX0_isBarred_33 (by decide) ?_
  refine lk_iret .boolean dX0_isBarred_34 rfl rfl ?_
  rw [hQ]
  exact ⟨by first | rfl | (simp [*]; done) | (simp_all; done) | grind, by first | rfl | (simp [*]; done), rfl⟩

set_option maxHeartbeats 4000000 in
set_option maxRecDepth 100000 in
theorem tX0_isBarred_no (l : Launch) (X : lk_G) (d : Nat) (σ : lk_N) (τ : lk_T) (c : Nat) (hc : lk_ko c = 0) (a s : Int32) (r : Nat) (g : Int32) (hr : r < 7) (h : lk_chk (σ c) r g = false) : lk_Mt l X mX0_isBarred d [lk_vr c 0, lk_vi (a), lk_vi (s), lk_vi (nI (r)), lk_vi (g)] σ τ (fun rr σ1 τ1 => rr = some (lk_vi 1) ∧ σ1 = lk_so σ (c + 2) (lk_kau (σ (c + 2)) a (s, r, lk_side (σ c) r g)) ∧ τ1 = τ) := by
  refine lk_met (L := [(0, lk_vr c 0), (1, lk_vi (a)), (2, lk_vi (s)), (3, lk_vi (nI (r))), (4, lk_vi (g))]) (by decide +kernel) (Nat.le_of_ble_eq_true rfl) rfl ?_
  obtain ⟨Q, hQ⟩ : ∃ Q : lk_Q, Q = fun rr σ1 τ1 => rr = some (lk_vi 1) ∧ σ1 = lk_so σ (c + 2) (lk_kau (σ (c + 2)) a (s, r, lk_side (σ c) r g)) ∧ τ1 = τ := ⟨_, rfl⟩
  rw [← hQ]
  refine lk_aload_n dX0_isBarred_0 rfl rfl ?_
  refine lk_getR (f := 6) dX0_isBarred_1 hc fX0_25 (by decide) (by decide) ?_
  refine lk_iload_n dX0_isBarred_4 rfl rfl ?_
  refine lk_ialdN (f := 6) (i := r) dX0_isBarred_5 hc (by decide) rfl (by omega) (by decide) ?_
  refine lk_iload dX0_isBarred_6 rfl ?_
  refine lk_iadd dX0_isBarred_8 ?_
  refine lk_istore (L' := [(0, lk_vr c 0), (1, lk_vi (a)), (2, lk_vi (s)), (3, lk_vi (nI (r))), (4, lk_vi (g)), (5, lk_vi ((σ c 6 (r)) + (g)))]) dX0_isBarred_9 (by decide +kernel) rfl ?_
  refine lk_iload dX0_isBarred_11 rfl ?_
  refine lk_aload_n dX0_isBarred_13 rfl rfl ?_
  refine lk_getR (f := 7) dX0_isBarred_14 hc fX0_28 (by decide) (by decide) ?_
  refine lk_iload_n dX0_isBarred_17 rfl rfl ?_
  refine lk_ialdN (f := 7) (i := r) dX0_isBarred_18 hc (by decide) rfl (by omega) (by decide) ?_
  refine lk_icmp_lt (tgt := 35) dX0_isBarred_19 (by decide) (fun h1 => ?_) (fun h1 => ?_)
  ·
    refine lk_aload_n dX0_isBarred_35 rfl rfl ?_
    refine lk_getO (f := 11) (o' := (c + 2)) dX0_isBarred_36 hc fX0_47 (by decide) (by decide) (lk_fo2 hc) ?_
    refine lk_iconst (v := 1) dX0_isBarred_39 (by decide) ?_
    refine lk_putZ (f := 0) dX0_isBarred_40 (lk_kc2 hc) fX0_95 (by decide) (by decide) (by decide) ?_
    refine lk_aload_n dX0_isBarred_43 rfl rfl ?_
    refine lk_getO (f := 11) (o' := (c + 2)) dX0_isBarred_44 hc fX0_47 (by decide) (by decide) (lk_fo2 hc) ?_
    refine lk_iload_n dX0_isBarred_47 rfl rfl ?_
    refine lk_putI (f := 1) dX0_isBarred_48 (lk_kc2 hc) fX0_99 (by decide) (by decide) ?_
    refine lk_aload_n dX0_isBarred_51 rfl rfl ?_
    refine lk_getO (f := 11) (o' := (c + 2)) dX0_isBarred_52 hc fX0_47 (by decide) (by decide) (lk_fo2 hc) ?_
    refine lk_iload_n dX0_isBarred_55 rfl rfl ?_
    refine lk_putI (f := 2) dX0_isBarred_56 (lk_kc2 hc) fX0_102 (by decide) (by decide) ?_
    refine lk_aload_n dX0_isBarred_59 rfl rfl ?_
    refine lk_getO (f := 11) (o' := (c + 2)) dX0_isBarred_60 hc fX0_47 (by decide) (by decide) (lk_fo2 hc) ?_
    refine lk_iload_n dX0_isBarred_63 rfl rfl ?_
    refine lk_putI (f := 3) dX0_isBarred_64 (lk_kc2 hc) fX0_105 (by decide) (by decide) ?_
    refine lk_aload_n dX0_isBarred_67 rfl rfl ?_
    refine lk_getO (f := 11) (o' := (c + 2)) dX0_isBarred_68 hc fX0_47 (by decide) (by decide) (lk_fo2 hc) ?_
    refine lk_iload dX0_isBarred_71 rfl ?_
    refine lk_aload_n dX0_isBarred_73 rfl rfl ?_
    refine lk_getR (f := 7) dX0_isBarred_74 hc fX0_28 (by decide) (by decide) ?_
    refine lk_iload_n dX0_isBarred_77 rfl rfl ?_
    refine lk_ialdN (f := 7) (i := r) dX0_isBarred_78 hc (by decide) rfl (by omega) (by decide) ?_
    refine lk_eqtop (y := (σ c 7 r)) (by simp [lk_up]) ?_
    refine lk_icmp_ge (tgt := 86) dX0_isBarred_79 (by decide) (fun h2 => ?_) (fun h2 => ?_)
    ·
      refine lk_iconst (v := 2) dX0_isBarred_86 (by decide) ?_
      refine lk_putI (f := 4) dX0_isBarred_87 (lk_kc2 hc) fX0_108 (by decide) (by decide) ?_
      refine lk_iconst (v := 1) dX0_isBarred_90 (by decide) ?_
      refine lk_iret .boolean dX0_isBarred_91 rfl rfl ?_
      rw [hQ]
      exact ⟨rfl, by first | (have hs : lk_side (σ c) r g = 1 := if_pos (Int32.not_le.mp (by assumption)); simp only [lk_up_so, lk_so_so, lk_so_eq, lk_kau, hs]) | (have hs : lk_side (σ c) r g = 2 := if_neg (Int32.not_lt.mpr (by assumption)); simp only [lk_up_so, lk_so_so, lk_so_eq, lk_kau, hs]), rfl⟩
    ·
      refine lk_iconst (v := 1) dX0_isBarred_82 (by decide) ?_
      refine lk_goto (tgt := 87) dX0_isBarred_83 (by decide) ?_
      refine lk_putI (f := 4) dX0_isBarred_87 (lk_kc2 hc) fX0_108 (by decide) (by decide) ?_
      refine lk_iconst (v := 1) dX0_isBarred_90 (by decide) ?_
      refine lk_iret .boolean dX0_isBarred_91 rfl rfl ?_
      rw [hQ]
      exact ⟨rfl, by first | (have hs : lk_side (σ c) r g = 1 := if_pos (Int32.not_le.mp (by assumption)); simp only [lk_up_so, lk_so_so, lk_so_eq, lk_kau, hs]) | (have hs : lk_side (σ c) r g = 2 := if_neg (Int32.not_lt.mpr (by assumption)); simp only [lk_up_so, lk_so_so, lk_so_eq, lk_kau, hs]), rfl⟩
  ·
    refine lk_iload dX0_isBarred_22 rfl ?_
    refine lk_aload_n dX0_isBarred_24 rfl rfl ?_
    refine lk_getR (f := 8) dX0_isBarred_25 hc fX0_31 (by decide) (by decide) ?_
    refine lk_iload_n dX0_isBarred_28 rfl rfl ?_
    refine lk_ialdN (f := 8) (i := r) dX0_isBarred_29 hc (by decide) rfl (by omega) (by decide) ?_
    refine lk_icmp_gt (tgt := 35) dX0_isBarred_30 (by decide) (fun h3 => ?_) (fun h3 => ?_)
    ·
      refine lk_aload_n dX0_isBarred_35 rfl rfl ?_
      refine lk_getO (f := 11) (o' := (c + 2)) dX0_isBarred_36 hc fX0_47 (by decide) (by decide) (lk_fo2 hc) ?_
      refine lk_iconst (v := 1) dX0_isBarred_39 (by decide) ?_
      refine lk_putZ (f := 0) dX0_isBarred_40 (lk_kc2 hc) fX0_95 (by decide) (by decide) (by decide) ?_
      refine lk_aload_n dX0_isBarred_43 rfl rfl ?_
      refine lk_getO (f := 11) (o' := (c + 2)) dX0_isBarred_44 hc fX0_47 (by decide) (by decide) (lk_fo2 hc) ?_
      refine lk_iload_n dX0_isBarred_47 rfl rfl ?_
      refine lk_putI (f := 1) dX0_isBarred_48 (lk_kc2 hc) fX0_99 (by decide) (by decide) ?_
      refine lk_aload_n dX0_isBarred_51 rfl rfl ?_
      refine lk_getO (f := 11) (o' := (c + 2)) dX0_isBarred_52 hc fX0_47 (by decide) (by decide) (lk_fo2 hc) ?_
      refine lk_iload_n dX0_isBarred_55 rfl rfl ?_
      refine lk_putI (f := 2) dX0_isBarred_56 (lk_kc2 hc) fX0_102 (by decide) (by decide) ?_
      refine lk_aload_n dX0_isBarred_59 rfl rfl ?_
      refine lk_getO (f := 11) (o' := (c + 2)) dX0_isBarred_60 hc fX0_47 (by decide) (by decide) (lk_fo2 hc) ?_
      refine lk_iload_n dX0_isBarred_63 rfl rfl ?_
      refine lk_putI (f := 3) dX0_isBarred_64 (lk_kc2 hc) fX0_105 (by decide) (by decide) ?_
      refine lk_aload_n dX0_isBarred_67 rfl rfl ?_
      refine lk_getO (f := 11) (o' := (c + 2)) dX0_isBarred_68 hc fX0_47 (by decide) (by decide) (lk_fo2 hc) ?_
      refine lk_iload dX0_isBarred_71 rfl ?_
      refine lk_aload_n dX0_isBarred_73 rfl rfl ?_
      refine lk_getR (f := 7) dX0_isBarred_74 hc fX0_28 (by decide) (by decide) ?_
      refine lk_iload_n dX0_isBarred_77 rfl rfl ?_
      refine lk_ialdN (f := 7) (i := r) dX0_isBarred_78 hc (by decide) rfl (by omega) (by decide) ?_
      refine lk_eqtop (y := (σ c 7 r)) (by simp [lk_up]) ?_
      refine lk_icmp_ge (tgt := 86) dX0_isBarred_79 (by decide) (fun h4 => ?_) (fun h4 => ?_)
      ·
        refine lk_iconst (v := 2) dX0_isBarred_86 (by decide) ?_
        refine lk_putI (f := 4) dX0_isBarred_87 (lk_kc2 hc) fX0_108 (by decide) (by decide) ?_
        refine lk_iconst (v := 1) dX0_isBarred_90 (by decide) ?_
        refine lk_iret .boolean dX0_isBarred_91 rfl rfl ?_
        rw [hQ]
        exact ⟨rfl, by first | (have hs : lk_side (σ c) r g = 1 := if_pos (Int32.not_le.mp (by assumption)); simp only [lk_up_so, lk_so_so, lk_so_eq, lk_kau, hs]) | (have hs : lk_side (σ c) r g = 2 := if_neg (Int32.not_lt.mpr (by assumption)); simp only [lk_up_so, lk_so_so, lk_so_eq, lk_kau, hs]), rfl⟩
      ·
        refine lk_iconst (v := 1) dX0_isBarred_82 (by decide) ?_
        refine lk_goto (tgt := 87) dX0_isBarred_83 (by decide) ?_
        refine lk_putI (f := 4) dX0_isBarred_87 (lk_kc2 hc) fX0_108 (by decide) (by decide) ?_
        refine lk_iconst (v := 1) dX0_isBarred_90 (by decide) ?_
        refine lk_iret .boolean dX0_isBarred_91 rfl rfl ?_
        rw [hQ]
        exact ⟨rfl, by first | (have hs : lk_side (σ c) r g = 1 := if_pos (Int32.not_le.mp (by assumption)); simp only [lk_up_so, lk_so_so, lk_so_eq, lk_kau, hs]) | (have hs : lk_side (σ c) r g = 2 := if_neg (Int32.not_lt.mpr (by assumption)); simp only [lk_up_so, lk_so_so, lk_so_eq, lk_kau, hs]), rfl⟩
    ·
      refine lk_iconst (v := 0) dX0_isBarred_33 (by decide) ?_
      refine lk_iret .boolean dX0_isBarred_34 rfl rfl ?_
      rw [hQ]
      exact absurd (lk_chkN (by assumption) (by assumption)) (by rw [h]; decide)

set_option maxHeartbeats 4000000 in
set_option maxRecDepth 100000 in
theorem tX0_fills_ok (l : Launch) (X : lk_G) (d : Nat) (σ : lk_N) (τ : lk_T) (c : Nat) (hc : lk_ko c = 0) (k : Nat) (hk : k < 6) (V : lk_O) (h : lk_fil (σ c) k = .inl V) : lk_Mt l X mX0_fills (d + 1) [lk_vr c 0, lk_vi (nI (k))] σ τ (fun rr σ1 τ1 => rr = some (lk_vi 1) ∧ σ1 = lk_so σ c V ∧ τ1 = τ) := by
  refine lk_met (L := [(0, lk_vr c 0), (1, lk_vi (nI (k)))]) (by decide +kernel) (Nat.le_of_ble_eq_true rfl) rfl ?_
  obtain ⟨Q, hQ⟩ : ∃ Q : lk_Q, Q = fun rr σ1 τ1 => rr = some (lk_vi 1) ∧ σ1 = lk_so σ c V ∧ τ1 = τ := ⟨_, rfl⟩
  rw [← hQ]
  refine lk_aload_n dX0_fills_0 rfl rfl ?_
  refine lk_getR (f := 2) dX0_fills_1 hc fX0_9 (by decide) (by decide) ?_
  refine lk_iload_n dX0_fills_4 rfl rfl ?_
  refine lk_ialdN (f := 2) (i := k) dX0_fills_5 hc (by decide) rfl (by omega) (by decide) ?_
  refine lk_aload_n dX0_fills_6 rfl rfl ?_
  refine lk_getR (f := 4) dX0_fills_7 hc fX0_18 (by decide) (by decide) ?_
  refine lk_iload_n dX0_fills_10 rfl rfl ?_
  refine lk_ialdN (f := 4) (i := k) dX0_fills_11 hc (by decide) rfl (by omega) (by decide) ?_
  refine lk_isub dX0_fills_12 ?_
  refine lk_istore_n (L' := [(0, lk_vr c 0), (1, lk_vi (nI (k))), (2, lk_vi ((σ c 2 (k)) - (σ c 4 (k))))]) dX0_fills_13 rfl (by decide +kernel) rfl ?_
  refine lk_aload_n dX0_fills_14 rfl rfl ?_
  refine lk_iload_n dX0_fills_15 rfl rfl ?_
  refine lk_iconst (v := 2) dX0_fills_16 (by decide) ?_
  refine lk_iload_n dX0_fills_17 rfl rfl ?_
  refine lk_iconst (v := 1) dX0_fills_18 (by decide) ?_
  refine lk_iaddN (a := k) (b := 1) dX0_fills_19 ?_
  refine lk_iload_n dX0_fills_20 rfl rfl ?_
  refine lk_ineg dX0_fills_21 ?_
  rcases hb : lk_chk (σ c) (k + 1) (0 - (σ c 2 (k) - σ c 4 (k))) with _ | _
  ·
    refine lk_callV (o := c) (as := [lk_vi (nI (k)), lk_vi 2, lk_vi (nI (k + 1)), lk_vi (0 - ((σ c 2 (k)) - (σ c 4 (k))))]) (S := []) dX0_fills_22 rfl vX0_isBarred rfl lX0_91 hc rfl (Nat.le_of_ble_eq_true rfl) (tX0_isBarred_no l X d σ τ (c := c) (a := nI (k)) (s := 2) (r := (k + 1)) (g := (0 - ((σ c 2 (k)) - (σ c 4 (k))))) (hc := hc) (hr := by omega) (h := hb)) ?_
    refine lk_k3 ?_
    refine lk_cast (pc' := 25) (S' := [lk_vi 1]) rfl rfl rfl ?_
    refine lk_if_eq (tgt := 30) dX0_fills_25 (by decide) (fun h1 => absurd h1 (by decide)) (fun h1 => ?_)
    refine lk_iconst (v := 0) dX0_fills_28 (by decide) ?_
    refine lk_iret .boolean dX0_fills_29 rfl rfl ?_
    rw [hQ]
    rw [lk_fil, if_neg (by rw [hb]; decide)] at h
    cases h
  ·
    refine lk_callV (o := c) (as := [lk_vi (nI (k)), lk_vi 2, lk_vi (nI (k + 1)), lk_vi (0 - ((σ c 2 (k)) - (σ c 4 (k))))]) (S := []) dX0_fills_22 rfl vX0_isBarred rfl lX0_91 hc rfl (Nat.le_of_ble_eq_true rfl) (tX0_isBarred_ok l X d σ τ (c := c) (a := nI (k)) (s := 2) (r := (k + 1)) (g := (0 - ((σ c 2 (k)) - (σ c 4 (k))))) (hc := hc) (hr := by omega) (h := hb)) ?_
    refine lk_k3 ?_
    refine lk_cast (pc' := 25) (S' := [lk_vi 0]) rfl rfl rfl ?_
    refine lk_if_eq (tgt := 30) dX0_fills_25 (by decide) (fun h2 => ?_) (fun h2 => absurd h2 (by decide))
    refine lk_aload_n dX0_fills_30 rfl rfl ?_
    refine lk_getR (f := 6) dX0_fills_31 hc fX0_25 (by decide) (by decide) ?_
    refine lk_iload_n dX0_fills_34 rfl rfl ?_
    refine lk_iconst (v := 1) dX0_fills_35 (by decide) ?_
    refine lk_iaddN (a := k) (b := 1) dX0_fills_36 ?_
    refine lk_dup2 dX0_fills_37 rfl rfl ?_
    refine lk_ialdN (f := 6) (i := k + 1) dX0_fills_38 hc (by decide) rfl (by omega) (by decide) ?_
    refine lk_iload_n dX0_fills_39 rfl rfl ?_
    refine lk_isub dX0_fills_40 ?_
    refine lk_iastN (f := 6) (i := k + 1) (v := ((σ c 6 (k + 1)) - ((σ c 2 (k)) - (σ c 4 (k))))) dX0_fills_41 hc (by decide) rfl (by omega) (by decide) ?_
    refine lk_aload_n dX0_fills_42 rfl rfl ?_
    refine lk_getR (f := 4) dX0_fills_43 hc fX0_18 (by decide) (by decide) ?_
    refine lk_iload_n dX0_fills_46 rfl rfl ?_
    refine lk_iconst (v := 0) dX0_fills_47 (by decide) ?_
    refine lk_iastN (f := 4) (i := k) (v := 0) dX0_fills_48 hc (by decide) rfl (by omega) (by decide) ?_
    refine lk_aload_n dX0_fills_49 rfl rfl ?_
    refine lk_getR (f := 5) dX0_fills_50 hc fX0_21 (by decide) (by decide) ?_
    refine lk_iload_n dX0_fills_53 rfl rfl ?_
    refine lk_iconst (v := 1) dX0_fills_54 (by decide) ?_
    refine lk_zastN (f := 5) (i := k) (v := 1) dX0_fills_55 hc (by decide) rfl (by omega) (by decide) (by decide) ?_
    refine lk_iconst (v := 1) dX0_fills_56 (by decide) ?_
    refine lk_iret .boolean dX0_fills_57 rfl rfl ?_
    rw [hQ]
    refine ⟨rfl, ?_, rfl⟩
    rw [lk_fil, if_pos hb] at h
    cases h
    simp [lk_up_so, lk_so_so, lk_so_eq, lk_ou]

set_option maxHeartbeats 4000000 in
set_option maxRecDepth 100000 in
theorem tX0_fills_no (l : Launch) (X : lk_G) (d : Nat) (σ : lk_N) (τ : lk_T) (c : Nat) (hc : lk_ko c = 0) (k : Nat) (hk : k < 6) (q : Int32 × Nat × Int32) (h : lk_fil (σ c) k = .inr q) : lk_Mt l X mX0_fills (d + 1) [lk_vr c 0, lk_vi (nI (k))] σ τ (fun rr σ1 τ1 => rr = some (lk_vi 0) ∧ σ1 = lk_so σ (c + 2) (lk_kau (σ (c + 2)) (nI k) q) ∧ τ1 = τ) := by
  refine lk_met (L := [(0, lk_vr c 0), (1, lk_vi (nI (k)))]) (by decide +kernel) (Nat.le_of_ble_eq_true rfl) rfl ?_
  obtain ⟨Q, hQ⟩ : ∃ Q : lk_Q, Q = fun rr σ1 τ1 => rr = some (lk_vi 0) ∧ σ1 = lk_so σ (c + 2) (lk_kau (σ (c + 2)) (nI k) q) ∧ τ1 = τ := ⟨_, rfl⟩
  rw [← hQ]
  refine lk_aload_n dX0_fills_0 rfl rfl ?_
  refine lk_getR (f := 2) dX0_fills_1 hc fX0_9 (by decide) (by decide) ?_
  refine lk_iload_n dX0_fills_4 rfl rfl ?_
  refine lk_ialdN (f := 2) (i := k) dX0_fills_5 hc (by decide) rfl (by omega) (by decide) ?_
  refine lk_aload_n dX0_fills_6 rfl rfl ?_
  refine lk_getR (f := 4) dX0_fills_7 hc fX0_18 (by decide) (by decide) ?_
  refine lk_iload_n dX0_fills_10 rfl rfl ?_
  refine lk_ialdN (f := 4) (i := k) dX0_fills_11 hc (by decide) rfl (by omega) (by decide) ?_
  refine lk_isub dX0_fills_12 ?_
  refine lk_istore_n (L' := [(0, lk_vr c 0), (1, lk_vi (nI (k))), (2, lk_vi ((σ c 2 (k)) - (σ c 4 (k))))]) dX0_fills_13 rfl (by decide +kernel) rfl ?_
  refine lk_aload_n dX0_fills_14 rfl rfl ?_
  refine lk_iload_n dX0_fills_15 rfl rfl ?_
  refine lk_iconst (v := 2) dX0_fills_16 (by decide) ?_
  refine lk_iload_n dX0_fills_17 rfl rfl ?_
  refine lk_iconst (v := 1) dX0_fills_18 (by decide) ?_
  refine lk_iaddN (a := k) (b := 1) dX0_fills_19 ?_
  refine lk_iload_n dX0_fills_20 rfl rfl ?_
  refine lk_ineg dX0_fills_21 ?_
  rcases hb : lk_chk (σ c) (k + 1) (0 - (σ c 2 (k) - σ c 4 (k))) with _ | _
  ·
    refine lk_callV (o := c) (as := [lk_vi (nI (k)), lk_vi 2, lk_vi (nI (k + 1)), lk_vi (0 - ((σ c 2 (k)) - (σ c 4 (k))))]) (S := []) dX0_fills_22 rfl vX0_isBarred rfl lX0_91 hc rfl (Nat.le_of_ble_eq_true rfl) (tX0_isBarred_no l X d σ τ (c := c) (a := nI (k)) (s := 2) (r := (k + 1)) (g := (0 - ((σ c 2 (k)) - (σ c 4 (k))))) (hc := hc) (hr := by omega) (h := hb)) ?_
    refine lk_k3 ?_
    refine lk_cast (pc' := 25) (S' := [lk_vi 1]) rfl rfl rfl ?_
    refine lk_if_eq (tgt := 30) dX0_fills_25 (by decide) (fun h1 => absurd h1 (by decide)) (fun h1 => ?_)
    refine lk_iconst (v := 0) dX0_fills_28 (by decide) ?_
    refine lk_iret .boolean dX0_fills_29 rfl rfl ?_
    rw [hQ]
    rw [lk_fil, if_neg (by rw [hb]; decide)] at h
    cases h
    exact ⟨rfl, rfl, rfl⟩
  ·
    refine lk_callV (o := c) (as := [lk_vi (nI (k)), lk_vi 2, lk_vi (nI (k + 1)), lk_vi (0 - ((σ c 2 (k)) - (σ c 4 (k))))]) (S := []) dX0_fills_22 rfl vX0_isBarred rfl lX0_91 hc rfl (Nat.le_of_ble_eq_true rfl) (tX0_isBarred_ok l X d σ τ (c := c) (a := nI (k)) (s := 2) (r := (k + 1)) (g := (0 - ((σ c 2 (k)) - (σ c 4 (k))))) (hc := hc) (hr := by omega) (h := hb)) ?_
    refine lk_k3 ?_
    refine lk_cast (pc' := 25) (S' := [lk_vi 0]) rfl rfl rfl ?_
    refine lk_if_eq (tgt := 30) dX0_fills_25 (by decide) (fun h2 => ?_) (fun h2 => absurd h2 (by decide))
    refine lk_aload_n dX0_fills_30 rfl rfl ?_
    refine lk_getR (f := 6) dX0_fills_31 hc fX0_25 (by decide) (by decide) ?_
    refine lk_iload_n dX0_fills_34 rfl rfl ?_
    refine lk_iconst (v := 1) dX0_fills_35 (by decide) ?_
    refine lk_iaddN (a := k) (b := 1) dX0_fills_36 ?_
    refine lk_dup2 dX0_fills_37 rfl rfl ?_
    refine lk_ialdN (f := 6) (i := k + 1) dX0_fills_38 hc (by decide) rfl (by omega) (by decide) ?_
    refine lk_iload_n dX0_fills_39 rfl rfl ?_
    refine lk_isub dX0_fills_40 ?_
    refine lk_iastN (f := 6) (i := k + 1) (v := ((σ c 6 (k + 1)) - ((σ c 2 (k)) - (σ c 4 (k))))) dX0_fills_41 hc (by decide) rfl (by omega) (by decide) ?_
    refine lk_aload_n dX0_fills_42 rfl rfl ?_
    refine lk_getR (f := 4) dX0_fills_43 hc fX0_18 (by decide) (by decide) ?_
    refine lk_iload_n dX0_fills_46 rfl rfl ?_
    refine lk_iconst (v := 0) dX0_fills_47 (by decide) ?_
    refine lk_iastN (f := 4) (i := k) (v := 0) dX0_fills_48 hc (by decide) rfl (by omega) (by decide) ?_
    refine lk_aload_n dX0_fills_49 rfl rfl ?_
    refine lk_getR (f := 5) dX0_fills_50 hc fX0_21 (by decide) (by decide) ?_
    refine lk_iload_n dX0_fills_53 rfl rfl ?_
    refine lk_iconst (v := 1) dX0_fills_54 (by decide) ?_
    refine lk_zastN (f := 5) (i := k) (v := 1) dX0_fills_55 hc (by decide) rfl (by omega) (by decide) (by decide) ?_
    refine lk_iconst (v := 1) dX0_fills_56 (by decide) ?_
    refine lk_iret .boolean dX0_fills_57 rfl rfl ?_
    rw [hQ]
    rw [lk_fil, if_pos hb] at h
    cases h

set_option maxHeartbeats 4000000 in
set_option maxRecDepth 100000 in
theorem tX0_empties_ok (l : Launch) (X : lk_G) (d : Nat) (σ : lk_N) (τ : lk_T) (c : Nat) (hc : lk_ko c = 0) (k : Nat) (hk : k < 6) (hp : ¬ σ c 3 k + 2 = 0) (V : lk_O) (h : lk_emp (σ c) k = .inl V) : lk_Mt l X mX0_empties (d + 1) [lk_vr c 0, lk_vi (nI (k))] σ τ (fun rr σ1 τ1 => rr = some (lk_vi 1) ∧ σ1 = lk_so σ c V ∧ τ1 = τ) := by
  refine lk_met (L := [(0, lk_vr c 0), (1, lk_vi (nI (k)))]) (by decide +kernel) (Nat.le_of_ble_eq_true rfl) rfl ?_
  obtain ⟨Q, hQ⟩ : ∃ Q : lk_Q, Q = fun rr σ1 τ1 => rr = some (lk_vi 1) ∧ σ1 = lk_so σ c V ∧ τ1 = τ := ⟨_, rfl⟩
  rw [← hQ]
  refine lk_aload_n dX0_empties_0 rfl rfl ?_
  refine lk_iload_n dX0_empties_1 rfl rfl ?_
  refine lk_callV (o := c) (as := [lk_vi (nI (k))]) (S := []) dX0_empties_2 rfl vX0_share rfl lX0_72 hc rfl (Nat.le_of_ble_eq_true rfl) (tX0_share l X d σ τ (c := c) (k := (k)) (hc := hc) (hk := hk) (hp := hp)) ?_
  refine lk_k3 ?_
  refine lk_cast (pc' := 5) (S' := [lk_vi (lk_shr (σ c) (k))]) rfl rfl rfl ?_
  refine lk_istore_n (L' := [(0, lk_vr c 0), (1, lk_vi (nI (k))), (2, lk_vi (lk_shr (σ c) (k)))]) dX0_empties_5 rfl (by decide +kernel) rfl ?_
  refine lk_aload_n dX0_empties_6 rfl rfl ?_
  refine lk_getR (f := 2) dX0_empties_7 hc fX0_9 (by decide) (by decide) ?_
  refine lk_iload_n dX0_empties_10 rfl rfl ?_
  refine lk_ialdN (f := 2) (i := k) dX0_empties_11 hc (by decide) rfl (by omega) (by decide) ?_
  refine lk_iload_n dX0_empties_12 rfl rfl ?_
  refine lk_isub dX0_empties_13 ?_
  refine lk_istore_n (L' := [(0, lk_vr c 0), (1, lk_vi (nI (k))), (2, lk_vi (lk_shr (σ c) (k))), (3, lk_vi ((σ c 2 (k)) - (lk_shr (σ c) (k))))]) dX0_empties_14 rfl (by decide +kernel) rfl ?_
  refine lk_aload_n dX0_empties_15 rfl rfl ?_
  refine lk_iload_n dX0_empties_16 rfl rfl ?_
  refine lk_iconst (v := 1) dX0_empties_17 (by decide) ?_
  refine lk_iload_n dX0_empties_18 rfl rfl ?_
  refine lk_iload_n dX0_empties_19 rfl rfl ?_
  rcases hb : lk_chk (σ c) (k) (σ c 2 (k) - lk_shr (σ c) k) with _ | _
  ·
    refine lk_callV (o := c) (as := [lk_vi (nI (k)), lk_vi 1, lk_vi (nI (k)), lk_vi ((σ c 2 (k)) - (lk_shr (σ c) (k)))]) (S := []) dX0_empties_20 rfl vX0_isBarred rfl lX0_91 hc rfl (Nat.le_of_ble_eq_true rfl) (tX0_isBarred_no l X d σ τ (c := c) (a := nI (k)) (s := 1) (r := (k)) (g := ((σ c 2 (k)) - (lk_shr (σ c) (k)))) (hc := hc) (hr := by omega) (h := hb)) ?_
    refine lk_k3 ?_
    refine lk_cast (pc' := 23) (S' := [lk_vi 1]) rfl rfl rfl ?_
    refine lk_if_eq (tgt := 28) dX0_empties_23 (by decide) (fun h1 => absurd h1 (by decide)) (fun h1 => ?_)
    refine lk_iconst (v := 0) dX0_empties_26 (by decide) ?_
    refine lk_iret .boolean dX0_empties_27 rfl rfl ?_
    rw [hQ]
    rw [lk_emp, if_neg (by rw [hb]; decide)] at h
    cases h
  ·
    refine lk_callV (o := c) (as := [lk_vi (nI (k)), lk_vi 1, lk_vi (nI (k)), lk_vi ((σ c 2 (k)) - (lk_shr (σ c) (k)))]) (S := []) dX0_empties_20 rfl vX0_isBarred rfl lX0_91 hc rfl (Nat.le_of_ble_eq_true rfl) (tX0_isBarred_ok l X d σ τ (c := c) (a := nI (k)) (s := 1) (r := (k)) (g := ((σ c 2 (k)) - (lk_shr (σ c) (k)))) (hc := hc) (hr := by omega) (h := hb)) ?_
    refine lk_k3 ?_
    refine lk_cast (pc' := 23) (S' := [lk_vi 0]) rfl rfl rfl ?_
    refine lk_if_eq (tgt := 28) dX0_empties_23 (by decide) (fun h2 => ?_) (fun h2 => absurd h2 (by decide))
    refine lk_aload_n dX0_empties_28 rfl rfl ?_
    refine lk_getR (f := 6) dX0_empties_29 hc fX0_25 (by decide) (by decide) ?_
    refine lk_iload_n dX0_empties_32 rfl rfl ?_
    refine lk_dup2 dX0_empties_33 rfl rfl ?_
    refine lk_ialdN (f := 6) (i := k) dX0_empties_34 hc (by decide) rfl (by omega) (by decide) ?_
    refine lk_iload_n dX0_empties_35 rfl rfl ?_
    refine lk_iadd dX0_empties_36 ?_
    refine lk_iastN (f := 6) (i := k) (v := ((σ c 6 (k)) + ((σ c 2 (k)) - (lk_shr (σ c) (k))))) dX0_empties_37 hc (by decide) rfl (by omega) (by decide) ?_
    refine lk_aload_n dX0_empties_38 rfl rfl ?_
    refine lk_getR (f := 4) dX0_empties_39 hc fX0_18 (by decide) (by decide) ?_
    refine lk_iload_n dX0_empties_42 rfl rfl ?_
    refine lk_iload_n dX0_empties_43 rfl rfl ?_
    refine lk_iastN (f := 4) (i := k) (v := (lk_shr (σ c) (k))) dX0_empties_44 hc (by decide) rfl (by omega) (by decide) ?_
    refine lk_aload_n dX0_empties_45 rfl rfl ?_
    refine lk_getR (f := 5) dX0_empties_46 hc fX0_21 (by decide) (by decide) ?_
    refine lk_iload_n dX0_empties_49 rfl rfl ?_
    refine lk_iconst (v := 0) dX0_empties_50 (by decide) ?_
    refine lk_zastN (f := 5) (i := k) (v := 0) dX0_empties_51 hc (by decide) rfl (by omega) (by decide) (by decide) ?_
    refine lk_iconst (v := 1) dX0_empties_52 (by decide) ?_
    refine lk_iret .boolean dX0_empties_53 rfl rfl ?_
    rw [hQ]
    refine ⟨rfl, ?_, rfl⟩
    rw [lk_emp, if_pos hb] at h
    cases h
    simp [lk_up_so, lk_so_so, lk_so_eq, lk_ou]

set_option maxHeartbeats 4000000 in
set_option maxRecDepth 100000 in
theorem tX0_empties_no (l : Launch) (X : lk_G) (d : Nat) (σ : lk_N) (τ : lk_T) (c : Nat) (hc : lk_ko c = 0) (k : Nat) (hk : k < 6) (hp : ¬ σ c 3 k + 2 = 0) (q : Int32 × Nat × Int32) (h : lk_emp (σ c) k = .inr q) : lk_Mt l X mX0_empties (d + 1) [lk_vr c 0, lk_vi (nI (k))] σ τ (fun rr σ1 τ1 => rr = some (lk_vi 0) ∧ σ1 = lk_so σ (c + 2) (lk_kau (σ (c + 2)) (nI k) q) ∧ τ1 = τ) := by
  refine lk_met (L := [(0, lk_vr c 0), (1, lk_vi (nI (k)))]) (by decide +kernel) (Nat.le_of_ble_eq_true rfl) rfl ?_
  obtain ⟨Q, hQ⟩ : ∃ Q : lk_Q, Q = fun rr σ1 τ1 => rr = some (lk_vi 0) ∧ σ1 = lk_so σ (c + 2) (lk_kau (σ (c + 2)) (nI k) q) ∧ τ1 = τ := ⟨_, rfl⟩
  rw [← hQ]
  refine lk_aload_n dX0_empties_0 rfl rfl ?_
  refine lk_iload_n dX0_empties_1 rfl rfl ?_
  refine lk_callV (o := c) (as := [lk_vi (nI (k))]) (S := []) dX0_empties_2 rfl vX0_share rfl lX0_72 hc rfl (Nat.le_of_ble_eq_true rfl) (tX0_share l X d σ τ (c := c) (k := (k)) (hc := hc) (hk := hk) (hp := hp)) ?_
  refine lk_k3 ?_
  refine lk_cast (pc' := 5) (S' := [lk_vi (lk_shr (σ c) (k))]) rfl rfl rfl ?_
  refine lk_istore_n (L' := [(0, lk_vr c 0), (1, lk_vi (nI (k))), (2, lk_vi (lk_shr (σ c) (k)))]) dX0_empties_5 rfl (by decide +kernel) rfl ?_
  refine lk_aload_n dX0_empties_6 rfl rfl ?_
  refine lk_getR (f := 2) dX0_empties_7 hc fX0_9 (by decide) (by decide) ?_
  refine lk_iload_n dX0_empties_10 rfl rfl ?_
  refine lk_ialdN (f := 2) (i := k) dX0_empties_11 hc (by decide) rfl (by omega) (by decide) ?_
  refine lk_iload_n dX0_empties_12 rfl rfl ?_
  refine lk_isub dX0_empties_13 ?_
  refine lk_istore_n (L' := [(0, lk_vr c 0), (1, lk_vi (nI (k))), (2, lk_vi (lk_shr (σ c) (k))), (3, lk_vi ((σ c 2 (k)) - (lk_shr (σ c) (k))))]) dX0_empties_14 rfl (by decide +kernel) rfl ?_
  refine lk_aload_n dX0_empties_15 rfl rfl ?_
  refine lk_iload_n dX0_empties_16 rfl rfl ?_
  refine lk_iconst (v := 1) dX0_empties_17 (by decide) ?_
  refine lk_iload_n dX0_empties_18 rfl rfl ?_
  refine lk_iload_n dX0_empties_19 rfl rfl ?_
  rcases hb : lk_chk (σ c) (k) (σ c 2 (k) - lk_shr (σ c) k) with _ | _
  ·
    refine lk_callV (o := c) (as := [lk_vi (nI (k)), lk_vi 1, lk_vi (nI (k)), lk_vi ((σ c 2 (k)) - (lk_shr (σ c) (k)))]) (S := []) dX0_empties_20 rfl vX0_isBarred rfl lX0_91 hc rfl (Nat.le_of_ble_eq_true rfl) (tX0_isBarred_no l X d σ τ (c := c) (a := nI (k)) (s := 1) (r := (k)) (g := ((σ c 2 (k)) - (lk_shr (σ c) (k)))) (hc := hc) (hr := by omega) (h := hb)) ?_
    refine lk_k3 ?_
    refine lk_cast (pc' := 23) (S' := [lk_vi 1]) rfl rfl rfl ?_
    refine lk_if_eq (tgt := 28) dX0_empties_23 (by decide) (fun h1 => absurd h1 (by decide)) (fun h1 => ?_)
    refine lk_iconst (v := 0) dX0_empties_26 (by decide) ?_
    refine lk_iret .boolean dX0_empties_27 rfl rfl ?_
    rw [hQ]
    rw [lk_emp, if_neg (by rw [hb]; decide)] at h
    cases h
    exact ⟨rfl, rfl, rfl⟩
  ·
    refine lk_callV (o := c) (as := [lk_vi (nI (k)), lk_vi 1, lk_vi (nI (k)), lk_vi ((σ c 2 (k)) - (lk_shr (σ c) (k)))]) (S := []) dX0_empties_20 rfl vX0_isBarred rfl lX0_91 hc rfl (Nat.le_of_ble_eq_true rfl) (tX0_isBarred_ok l X d σ τ (c := c) (a := nI (k)) (s := 1) (r := (k)) (g := ((σ c 2 (k)) - (lk_shr (σ c) (k)))) (hc := hc) (hr := by omega) (h := hb)) ?_
    refine lk_k3 ?_
    refine lk_cast (pc' := 23) (S' := [lk_vi 0]) rfl rfl rfl ?_
    refine lk_if_eq (tgt := 28) dX0_empties_23 (by decide) (fun h2 => ?_) (fun h2 => absurd h2 (by decide))
    refine lk_aload_n dX0_empties_28 rfl rfl ?_
    refine lk_getR (f := 6) dX0_empties_29 hc fX0_25 (by decide) (by decide) ?_
    refine lk_iload_n dX0_empties_32 rfl rfl ?_
    refine lk_dup2 dX0_empties_33 rfl rfl ?_
    refine lk_ialdN (f := 6) (i := k) dX0_empties_34 hc (by decide) rfl (by omega) (by decide) ?_
    refine lk_iload_n dX0_empties_35 rfl rfl ?_
    refine lk_iadd dX0_empties_36 ?_
    refine lk_iastN (f := 6) (i := k) (v := ((σ c 6 (k)) + ((σ c 2 (k)) - (lk_shr (σ c) (k))))) dX0_empties_37 hc (by decide) rfl (by omega) (by decide) ?_
    refine lk_aload_n dX0_empties_38 rfl rfl ?_
    refine lk_getR (f := 4) dX0_empties_39 hc fX0_18 (by decide) (by decide) ?_
    refine lk_iload_n dX0_empties_42 rfl rfl ?_
    refine lk_iload_n dX0_empties_43 rfl rfl ?_
    refine lk_iastN (f := 4) (i := k) (v := (lk_shr (σ c) (k))) dX0_empties_44 hc (by decide) rfl (by omega) (by decide) ?_
    refine lk_aload_n dX0_empties_45 rfl rfl ?_
    refine lk_getR (f := 5) dX0_empties_46 hc fX0_21 (by decide) (by decide) ?_
    refine lk_iload_n dX0_empties_49 rfl rfl ?_
    refine lk_iconst (v := 0) dX0_empties_50 (by decide) ?_
    refine lk_zastN (f := 5) (i := k) (v := 0) dX0_empties_51 hc (by decide) rfl (by omega) (by decide) (by decide) ?_
    refine lk_iconst (v := 1) dX0_empties_52 (by decide) ?_
    refine lk_iret .boolean dX0_empties_53 rfl rfl ?_
    rw [hQ]
    rw [lk_emp, if_pos hb] at h
    cases h

set_option maxHeartbeats 4000000 in
set_option maxRecDepth 100000 in
theorem tX0_swaps_ok (l : Launch) (X : lk_G) (d : Nat) (σ : lk_N) (τ : lk_T) (c : Nat) (hc : lk_ko c = 0) (k : Nat) (hk : k < 6) (z : Int32) (V : lk_O) (h : lk_swp (σ c) k z = .inl V) : lk_Mt l X mX0_swaps (d + 1) [lk_vr c 0, lk_vi (nI (k)), lk_vi (z)] σ τ (fun rr σ1 τ1 => rr = some (lk_vi 1) ∧ σ1 = lk_so σ c V ∧ τ1 = τ) := by
  refine lk_met (L := [(0, lk_vr c 0), (1, lk_vi (nI (k))), (2, lk_vi (z))]) (by decide +kernel) (Nat.le_of_ble_eq_true rfl) rfl ?_
  obtain ⟨Q, hQ⟩ : ∃ Q : lk_Q, Q = fun rr σ1 τ1 => rr = some (lk_vi 1) ∧ σ1 = lk_so σ c V ∧ τ1 = τ := ⟨_, rfl⟩
  rw [← hQ]
  refine lk_aload_n dX0_swaps_0 rfl rfl ?_
  refine lk_iload_n dX0_swaps_1 rfl rfl ?_
  refine lk_iconst (v := 3) dX0_swaps_2 (by decide) ?_
  refine lk_iload_n dX0_swaps_3 rfl rfl ?_
  refine lk_iconst (v := 1) dX0_swaps_4 (by decide) ?_
  refine lk_iaddN (a := k) (b := 1) dX0_swaps_5 ?_
  refine lk_iload_n dX0_swaps_6 rfl rfl ?_
  refine lk_ineg dX0_swaps_7 ?_
  rcases hb : lk_chk (σ c) (k + 1) (0 - (z)) with _ | _
  ·
    refine lk_callV (o := c) (as := [lk_vi (nI (k)), lk_vi 3, lk_vi (nI (k + 1)), lk_vi (0 - (z))]) (S := []) dX0_swaps_8 rfl vX0_isBarred rfl lX0_91 hc rfl (Nat.le_of_ble_eq_true rfl) (tX0_isBarred_no l X d σ τ (c := c) (a := nI (k)) (s := 3) (r := (k + 1)) (g := (0 - (z))) (hc := hc) (hr := by omega) (h := hb)) ?_
    refine lk_k3 ?_
    refine lk_cast (pc' := 11) (S' := [lk_vi 1]) rfl rfl rfl ?_
    refine lk_if_ne (tgt := 25) dX0_swaps_11 (by decide) (fun h1 => ?_) (fun h1 => absurd h1 (by decide))
    refine lk_iconst (v := 0) dX0_swaps_25 (by decide) ?_
    refine lk_iret .boolean dX0_swaps_26 rfl rfl ?_
    rw [hQ]
    first | (rw [lk_swp, if_neg (by rw [hb]; decide)] at h; cases h; done) | (rw [lk_swp, if_pos hb, if_neg (by rw [hb2]; decide)] at h; cases h; done)
  ·
    refine lk_callV (o := c) (as := [lk_vi (nI (k)), lk_vi 3, lk_vi (nI (k + 1)), lk_vi (0 - (z))]) (S := []) dX0_swaps_8 rfl vX0_isBarred rfl lX0_91 hc rfl (Nat.le_of_ble_eq_true rfl) (tX0_isBarred_ok l X d σ τ (c := c) (a := nI (k)) (s := 3) (r := (k + 1)) (g := (0 - (z))) (hc := hc) (hr := by omega) (h := hb)) ?_
    refine lk_k3 ?_
    refine lk_cast (pc' := 11) (S' := [lk_vi 0]) rfl rfl rfl ?_
    refine lk_if_ne (tgt := 25) dX0_swaps_11 (by decide) (fun h2 => absurd h2 (by decide)) (fun h2 => ?_)
    refine lk_aload_n dX0_swaps_14 rfl rfl ?_
    refine lk_iload_n dX0_swaps_15 rfl rfl ?_
    refine lk_iconst (v := 3) dX0_swaps_16 (by decide) ?_
    refine lk_iload_n dX0_swaps_17 rfl rfl ?_
    refine lk_iload_n dX0_swaps_18 rfl rfl ?_
    rcases hb2 : lk_chk (σ c) (k) (z) with _ | _
    ·
      refine lk_callV (o := c) (as := [lk_vi (nI (k)), lk_vi 3, lk_vi (nI (k)), lk_vi (z)]) (S := []) dX0_swaps_19 rfl vX0_isBarred rfl lX0_91 hc rfl (Nat.le_of_ble_eq_true rfl) (tX0_isBarred_no l X d σ τ (c := c) (a := nI (k)) (s := 3) (r := (k)) (g := (z)) (hc := hc) (hr := by omega) (h := hb2)) ?_
      refine lk_k3 ?_
      refine lk_cast (pc' := 22) (S' := [lk_vi 1]) rfl rfl rfl ?_
      refine lk_if_eq (tgt := 27) dX0_swaps_22 (by decide) (fun h3 => absurd h3 (by decide)) (fun h3 => ?_)
      refine lk_iconst (v := 0) dX0_swaps_25 (by decide) ?_
      refine lk_iret .boolean dX0_swaps_26 rfl rfl ?_
      rw [hQ]
      first | (rw [lk_swp, if_neg (by rw [hb]; decide)] at h; cases h; done) | (rw [lk_swp, if_pos hb, if_neg (by rw [hb2]; decide)] at h; cases h; done)
    ·
      refine lk_callV (o := c) (as := [lk_vi (nI (k)), lk_vi 3, lk_vi (nI (k)), lk_vi (z)]) (S := []) dX0_swaps_19 rfl vX0_isBarred rfl lX0_91 hc rfl (Nat.le_of_ble_eq_true rfl) (tX0_isBarred_ok l X d σ τ (c := c) (a := nI (k)) (s := 3) (r := (k)) (g := (z)) (hc := hc) (hr := by omega) (h := hb2)) ?_
      refine lk_k3 ?_
      refine lk_cast (pc' := 22) (S' := [lk_vi 0]) rfl rfl rfl ?_
      refine lk_if_eq (tgt := 27) dX0_swaps_22 (by decide) (fun h4 => ?_) (fun h4 => absurd h4 (by decide))
      refine lk_aload_n dX0_swaps_27 rfl rfl ?_
      refine lk_getR (f := 6) dX0_swaps_28 hc fX0_25 (by decide) (by decide) ?_
      refine lk_iload_n dX0_swaps_31 rfl rfl ?_
      refine lk_iconst (v := 1) dX0_swaps_32 (by decide) ?_
      refine lk_iaddN (a := k) (b := 1) dX0_swaps_33 ?_
      refine lk_dup2 dX0_swaps_34 rfl rfl ?_
      refine lk_ialdN (f := 6) (i := k + 1) dX0_swaps_35 hc (by decide) rfl (by omega) (by decide) ?_
      refine lk_iload_n dX0_swaps_36 rfl rfl ?_
      refine lk_isub dX0_swaps_37 ?_
      refine lk_iastN (f := 6) (i := k + 1) (v := ((σ c 6 (k + 1)) - (z))) dX0_swaps_38 hc (by decide) rfl (by omega) (by decide) ?_
      refine lk_aload_n dX0_swaps_39 rfl rfl ?_
      refine lk_getR (f := 6) dX0_swaps_40 hc fX0_25 (by decide) (by decide) ?_
      refine lk_iload_n dX0_swaps_43 rfl rfl ?_
      refine lk_dup2 dX0_swaps_44 rfl rfl ?_
      refine lk_ialdN (f := 6) (i := k) dX0_swaps_45 hc (by decide) rfl (by omega) (by decide) ?_
      refine lk_iload_n dX0_swaps_46 rfl rfl ?_
      refine lk_iadd dX0_swaps_47 ?_
      refine lk_iastN (f := 6) (i := k) (v := (((lk_up σ c 6 (k + 1) ((σ c 6 (k + 1)) - (z))) c 6 (k)) + (z))) dX0_swaps_48 hc (by decide) rfl (by omega) (by decide) ?_
      refine lk_iconst (v := 1) dX0_swaps_49 (by decide) ?_
      refine lk_iret .boolean dX0_swaps_50 rfl rfl ?_
      rw [hQ]
      refine ⟨rfl, ?_, rfl⟩
      rw [lk_swp, if_pos hb, if_pos hb2] at h
      cases h
      simp [lk_up_so, lk_so_so, lk_so_eq, lk_ou]

set_option maxHeartbeats 4000000 in
set_option maxRecDepth 100000 in
theorem tX0_swaps_no (l : Launch) (X : lk_G) (d : Nat) (σ : lk_N) (τ : lk_T) (c : Nat) (hc : lk_ko c = 0) (k : Nat) (hk : k < 6) (z : Int32) (q : Int32 × Nat × Int32) (h : lk_swp (σ c) k z = .inr q) : lk_Mt l X mX0_swaps (d + 1) [lk_vr c 0, lk_vi (nI (k)), lk_vi (z)] σ τ (fun rr σ1 τ1 => rr = some (lk_vi 0) ∧ σ1 = lk_so σ (c + 2) (lk_kau (σ (c + 2)) (nI k) q) ∧ τ1 = τ) := by
  refine lk_met (L := [(0, lk_vr c 0), (1, lk_vi (nI (k))), (2, lk_vi (z))]) (by decide +kernel) (Nat.le_of_ble_eq_true rfl) rfl ?_
  obtain ⟨Q, hQ⟩ : ∃ Q : lk_Q, Q = fun rr σ1 τ1 => rr = some (lk_vi 0) ∧ σ1 = lk_so σ (c + 2) (lk_kau (σ (c + 2)) (nI k) q) ∧ τ1 = τ := ⟨_, rfl⟩
  rw [← hQ]
  refine lk_aload_n dX0_swaps_0 rfl rfl ?_
  refine lk_iload_n dX0_swaps_1 rfl rfl ?_
  refine lk_iconst (v := 3) dX0_swaps_2 (by decide) ?_
  refine lk_iload_n dX0_swaps_3 rfl rfl ?_
  refine lk_iconst (v := 1) dX0_swaps_4 (by decide) ?_
  refine lk_iaddN (a := k) (b := 1) dX0_swaps_5 ?_
  refine lk_iload_n dX0_swaps_6 rfl rfl ?_
  refine lk_ineg dX0_swaps_7 ?_
  rcases hb : lk_chk (σ c) (k + 1) (0 - (z)) with _ | _
  ·
    refine lk_callV (o := c) (as := [lk_vi (nI (k)), lk_vi 3, lk_vi (nI (k + 1)), lk_vi (0 - (z))]) (S := []) dX0_swaps_8 rfl vX0_isBarred rfl lX0_91 hc rfl (Nat.le_of_ble_eq_true rfl) (tX0_isBarred_no l X d σ τ (c := c) (a := nI (k)) (s := 3) (r := (k + 1)) (g := (0 - (z))) (hc := hc) (hr := by omega) (h := hb)) ?_
    refine lk_k3 ?_
    refine lk_cast (pc' := 11) (S' := [lk_vi 1]) rfl rfl rfl ?_
    refine lk_if_ne (tgt := 25) dX0_swaps_11 (by decide) (fun h1 => ?_) (fun h1 => absurd h1 (by decide))
    refine lk_iconst (v := 0) dX0_swaps_25 (by decide) ?_
    refine lk_iret .boolean dX0_swaps_26 rfl rfl ?_
    rw [hQ]
    first | (rw [lk_swp, if_neg (by rw [hb]; decide)] at h; cases h; exact ⟨rfl, rfl, rfl⟩) | (rw [lk_swp, if_pos hb, if_neg (by rw [hb2]; decide)] at h; cases h; exact ⟨rfl, rfl, rfl⟩)
  ·
    refine lk_callV (o := c) (as := [lk_vi (nI (k)), lk_vi 3, lk_vi (nI (k + 1)), lk_vi (0 - (z))]) (S := []) dX0_swaps_8 rfl vX0_isBarred rfl lX0_91 hc rfl (Nat.le_of_ble_eq_true rfl) (tX0_isBarred_ok l X d σ τ (c := c) (a := nI (k)) (s := 3) (r := (k + 1)) (g := (0 - (z))) (hc := hc) (hr := by omega) (h := hb)) ?_
    refine lk_k3 ?_
    refine lk_cast (pc' := 11) (S' := [lk_vi 0]) rfl rfl rfl ?_
    refine lk_if_ne (tgt := 25) dX0_swaps_11 (by decide) (fun h2 => absurd h2 (by decide)) (fun h2 => ?_)
    refine lk_aload_n dX0_swaps_14 rfl rfl ?_
    refine lk_iload_n dX0_swaps_15 rfl rfl ?_
    refine lk_iconst (v := 3) dX0_swaps_16 (by decide) ?_
    refine lk_iload_n dX0_swaps_17 rfl rfl ?_
    refine lk_iload_n dX0_swaps_18 rfl rfl ?_
    rcases hb2 : lk_chk (σ c) (k) (z) with _ | _
    ·
      refine lk_callV (o := c) (as := [lk_vi (nI (k)), lk_vi 3, lk_vi (nI (k)), lk_vi (z)]) (S := []) dX0_swaps_19 rfl vX0_isBarred rfl lX0_91 hc rfl (Nat.le_of_ble_eq_true rfl) (tX0_isBarred_no l X d σ τ (c := c) (a := nI (k)) (s := 3) (r := (k)) (g := (z)) (hc := hc) (hr := by omega) (h := hb2)) ?_
      refine lk_k3 ?_
      refine lk_cast (pc' := 22) (S' := [lk_vi 1]) rfl rfl rfl ?_
      refine lk_if_eq (tgt := 27) dX0_swaps_22 (by decide) (fun h3 => absurd h3 (by decide)) (fun h3 => ?_)
      refine lk_iconst (v := 0) dX0_swaps_25 (by decide) ?_
      refine lk_iret .boolean dX0_swaps_26 rfl rfl ?_
      rw [hQ]
      first | (rw [lk_swp, if_neg (by rw [hb]; decide)] at h; cases h; exact ⟨rfl, rfl, rfl⟩) | (rw [lk_swp, if_pos hb, if_neg (by rw [hb2]; decide)] at h; cases h; exact ⟨rfl, rfl, rfl⟩)
    ·
      refine lk_callV (o := c) (as := [lk_vi (nI (k)), lk_vi 3, lk_vi (nI (k)), lk_vi (z)]) (S := []) dX0_swaps_19 rfl vX0_isBarred rfl lX0_91 hc rfl (Nat.le_of_ble_eq_true rfl) (tX0_isBarred_ok l X d σ τ (c := c) (a := nI (k)) (s := 3) (r := (k)) (g := (z)) (hc := hc) (hr := by omega) (h := hb2)) ?_
      refine lk_k3 ?_
      refine lk_cast (pc' := 22) (S' := [lk_vi 0]) rfl rfl rfl ?_
      refine lk_if_eq (tgt := 27) dX0_swaps_22 (by decide) (fun h4 => ?_) (fun h4 => absurd h4 (by decide))
      refine lk_aload_n dX0_swaps_27 rfl rfl ?_
      refine lk_getR (f := 6) dX0_swaps_28 hc fX0_25 (by decide) (by decide) ?_
      refine lk_iload_n dX0_swaps_31 rfl rfl ?_
      refine lk_iconst (v := 1) dX0_swaps_32 (by decide) ?_
      refine lk_iaddN (a := k) (b := 1) dX0_swaps_33 ?_
      refine lk_dup2 dX0_swaps_34 rfl rfl ?_
      refine lk_ialdN (f := 6) (i := k + 1) dX0_swaps_35 hc (by decide) rfl (by omega) (by decide) ?_
      refine lk_iload_n dX0_swaps_36 rfl rfl ?_
      refine lk_isub dX0_swaps_37 ?_
      refine lk_iastN (f := 6) (i := k + 1) (v := ((σ c 6 (k + 1)) - (z))) dX0_swaps_38 hc (by decide) rfl (by omega) (by decide) ?_
      refine lk_aload_n dX0_swaps_39 rfl rfl ?_
      refine lk_getR (f := 6) dX0_swaps_40 hc fX0_25 (by decide) (by decide) ?_
      refine lk_iload_n dX0_swaps_43 rfl rfl ?_
      refine lk_dup2 dX0_swaps_44 rfl rfl ?_
      refine lk_ialdN (f := 6) (i := k) dX0_swaps_45 hc (by decide) rfl (by omega) (by decide) ?_
      refine lk_iload_n dX0_swaps_46 rfl rfl ?_
      refine lk_iadd dX0_swaps_47 ?_
      refine lk_iastN (f := 6) (i := k) (v := (((lk_up σ c 6 (k + 1) ((σ c 6 (k + 1)) - (z))) c 6 (k)) + (z))) dX0_swaps_48 hc (by decide) rfl (by omega) (by decide) ?_
      refine lk_iconst (v := 1) dX0_swaps_49 (by decide) ?_
      refine lk_iret .boolean dX0_swaps_50 rfl rfl ?_
      rw [hQ]
      rw [lk_swp, if_pos hb, if_pos hb2] at h
      cases h
end
