section
-- ===== PART A: goes FIRST, ahead of the names: the tables' words, and 'selects' of the private methods out of them =====
/-- a private method of a class that the tables say can be made, by its rows of tables_1 -/
def lw_okq (q : MethodName × Nat) : Prop := (q.1.cls ≠ "java/lang/invoke/MethodHandle" ∧ q.1.cls ≠ "java/lang/invoke/VarHandle") ∧ Cond.instantiable q.1.cls q.2 ∈ tables_1 ∧ Cond.privateMethod q.1 ∈ tables_1 ∧ Cond.instanceMethod q.1 ∈ tables_1
theorem lw_p0 : lw_okq (⟨"LockStaircase", "readBoats", "()I"⟩, 14) := ⟨⟨by decide +kernel, by decide +kernel⟩, List.mem_of_getElem? (i := 15) (by decide +kernel), List.mem_of_getElem? (i := 373) (by decide +kernel), List.mem_of_getElem? (i := 374) (by decide +kernel)⟩
theorem lw_p1 : lw_okq (⟨"LockStaircase$Tape", "current", "()I"⟩, 8) := ⟨⟨by decide +kernel, by decide +kernel⟩, List.mem_of_getElem? (i := 153) (by decide +kernel), List.mem_of_getElem? (i := 392) (by decide +kernel), List.mem_of_getElem? (i := 393) (by decide +kernel)⟩
theorem lw_p2 : lw_okq (⟨"LockStaircase$Tape", "readWay", "()Z"⟩, 8) := ⟨⟨by decide +kernel, by decide +kernel⟩, List.mem_of_getElem? (i := 153) (by decide +kernel), List.mem_of_getElem? (i := 396) (by decide +kernel), List.mem_of_getElem? (i := 397) (by decide +kernel)⟩
theorem lw_p3 : lw_okq (⟨"LockStaircase$Tape", "readFigure", "(I)I"⟩, 8) := ⟨⟨by decide +kernel, by decide +kernel⟩, List.mem_of_getElem? (i := 153) (by decide +kernel), List.mem_of_getElem? (i := 400) (by decide +kernel), List.mem_of_getElem? (i := 401) (by decide +kernel)⟩
theorem lw_p4 : lw_okq (⟨"LockStaircase$Fleet", "placeFor", "(I)I"⟩, 6) := ⟨⟨by decide +kernel, by decide +kernel⟩, List.mem_of_getElem? (i := 121) (by decide +kernel), List.mem_of_getElem? (i := 408) (by decide +kernel), List.mem_of_getElem? (i := 409) (by decide +kernel)⟩
theorem lw_p5 : lw_okq (⟨"LockStaircase$Fleet", "copyRow", "(II)V"⟩, 6) := ⟨⟨by decide +kernel, by decide +kernel⟩, List.mem_of_getElem? (i := 121) (by decide +kernel), List.mem_of_getElem? (i := 412) (by decide +kernel), List.mem_of_getElem? (i := 413) (by decide +kernel)⟩
theorem lw_p6 : lw_okq (⟨"LockStaircase", "takeFleetInThought", "(I)I"⟩, 14) := ⟨⟨by decide +kernel, by decide +kernel⟩, List.mem_of_getElem? (i := 15) (by decide +kernel), List.mem_of_getElem? (i := 420) (by decide +kernel), List.mem_of_getElem? (i := 421) (by decide +kernel)⟩
theorem lw_p7 : lw_okq (⟨"LockStaircase$Fleet", "letterCount", "(I)I"⟩, 6) := ⟨⟨by decide +kernel, by decide +kernel⟩, List.mem_of_getElem? (i := 121) (by decide +kernel), List.mem_of_getElem? (i := 440) (by decide +kernel), List.mem_of_getElem? (i := 441) (by decide +kernel)⟩
theorem lw_p8 : lw_okq (⟨"LockStaircase$Canal", "empties", "(I)Z"⟩, 13) := ⟨⟨by decide +kernel, by decide +kernel⟩, List.mem_of_getElem? (i := 23) (by decide +kernel), List.mem_of_getElem? (i := 486) (by decide +kernel), List.mem_of_getElem? (i := 487) (by decide +kernel)⟩
theorem lw_p9 : lw_okq (⟨"LockStaircase$Canal", "isBarred", "(IIII)Z"⟩, 13) := ⟨⟨by decide +kernel, by decide +kernel⟩, List.mem_of_getElem? (i := 23) (by decide +kernel), List.mem_of_getElem? (i := 490) (by decide +kernel), List.mem_of_getElem? (i := 491) (by decide +kernel)⟩
theorem lw_p10 : lw_okq (⟨"LockStaircase$Canal", "fills", "(I)Z"⟩, 13) := ⟨⟨by decide +kernel, by decide +kernel⟩, List.mem_of_getElem? (i := 23) (by decide +kernel), List.mem_of_getElem? (i := 494) (by decide +kernel), List.mem_of_getElem? (i := 495) (by decide +kernel)⟩
theorem lw_p11 : lw_okq (⟨"LockStaircase$Canal", "swaps", "(II)Z"⟩, 13) := ⟨⟨by decide +kernel, by decide +kernel⟩, List.mem_of_getElem? (i := 23) (by decide +kernel), List.mem_of_getElem? (i := 498) (by decide +kernel), List.mem_of_getElem? (i := 499) (by decide +kernel)⟩
theorem lw_p12 : lw_okq (⟨"LockStaircase", "lineUp", "(I)V"⟩, 14) := ⟨⟨by decide +kernel, by decide +kernel⟩, List.mem_of_getElem? (i := 15) (by decide +kernel), List.mem_of_getElem? (i := 551) (by decide +kernel), List.mem_of_getElem? (i := 552) (by decide +kernel)⟩
theorem lw_p13 : lw_okq (⟨"LockStaircase$Line", "join", "(LLockStaircase$Fleet;I)V"⟩, 2) := ⟨⟨by decide +kernel, by decide +kernel⟩, List.mem_of_getElem? (i := 191) (by decide +kernel), List.mem_of_getElem? (i := 559) (by decide +kernel), List.mem_of_getElem? (i := 560) (by decide +kernel)⟩
theorem lw_p14 : lw_okq (⟨"LockStaircase", "weaveOrders", "(I)V"⟩, 14) := ⟨⟨by decide +kernel, by decide +kernel⟩, List.mem_of_getElem? (i := 15) (by decide +kernel), List.mem_of_getElem? (i := 575) (by decide +kernel), List.mem_of_getElem? (i := 576) (by decide +kernel)⟩
theorem lw_p15 : lw_okq (⟨"LockStaircase", "spentByOrder", "(II)I"⟩, 14) := ⟨⟨by decide +kernel, by decide +kernel⟩, List.mem_of_getElem? (i := 15) (by decide +kernel), List.mem_of_getElem? (i := 600) (by decide +kernel), List.mem_of_getElem? (i := 601) (by decide +kernel)⟩
def lw_privs_1 : List (MethodName × Nat) := [(⟨"LockStaircase", "readBoats", "()I"⟩, 14), (⟨"LockStaircase$Tape", "current", "()I"⟩, 8), (⟨"LockStaircase$Tape", "readWay", "()Z"⟩, 8), (⟨"LockStaircase$Tape", "readFigure", "(I)I"⟩, 8), (⟨"LockStaircase$Fleet", "placeFor", "(I)I"⟩, 6), (⟨"LockStaircase$Fleet", "copyRow", "(II)V"⟩, 6), (⟨"LockStaircase", "takeFleetInThought", "(I)I"⟩, 14), (⟨"LockStaircase$Fleet", "letterCount", "(I)I"⟩, 6), (⟨"LockStaircase$Canal", "empties", "(I)Z"⟩, 13), (⟨"LockStaircase$Canal", "isBarred", "(IIII)Z"⟩, 13), (⟨"LockStaircase$Canal", "fills", "(I)Z"⟩, 13), (⟨"LockStaircase$Canal", "swaps", "(II)Z"⟩, 13), (⟨"LockStaircase", "lineUp", "(I)V"⟩, 14), (⟨"LockStaircase$Line", "join", "(LLockStaircase$Fleet;I)V"⟩, 2), (⟨"LockStaircase", "weaveOrders", "(I)V"⟩, 14), (⟨"LockStaircase", "spentByOrder", "(II)I"⟩, 14)]
theorem lw_r1 : ∀ q ∈ lw_privs_1, lw_okq q := List.forall_mem_cons.mpr ⟨lw_p0, List.forall_mem_cons.mpr ⟨lw_p1, List.forall_mem_cons.mpr ⟨lw_p2, List.forall_mem_cons.mpr ⟨lw_p3, List.forall_mem_cons.mpr ⟨lw_p4, List.forall_mem_cons.mpr ⟨lw_p5, List.forall_mem_cons.mpr ⟨lw_p6, List.forall_mem_cons.mpr ⟨lw_p7, List.forall_mem_cons.mpr ⟨lw_p8, List.forall_mem_cons.mpr ⟨lw_p9, List.forall_mem_cons.mpr ⟨lw_p10, List.forall_mem_cons.mpr ⟨lw_p11, List.forall_mem_cons.mpr ⟨lw_p12, List.forall_mem_cons.mpr ⟨lw_p13, List.forall_mem_cons.mpr ⟨lw_p14, List.forall_mem_cons.mpr ⟨lw_p15, fun _ h => absurd h List.not_mem_nil⟩⟩⟩⟩⟩⟩⟩⟩⟩⟩⟩⟩⟩⟩⟩⟩
theorem lw_p16 : lw_okq (⟨"LockStaircase", "boatOfBest", "(I)I"⟩, 14) := ⟨⟨by decide +kernel, by decide +kernel⟩, List.mem_of_getElem? (i := 15) (by decide +kernel), List.mem_of_getElem? (i := 621) (by decide +kernel), List.mem_of_getElem? (i := 622) (by decide +kernel)⟩
theorem lw_p17 : lw_okq (⟨"LockStaircase", "runInThought", "(II)V"⟩, 14) := ⟨⟨by decide +kernel, by decide +kernel⟩, List.mem_of_getElem? (i := 15) (by decide +kernel), List.mem_of_getElem? (i := 632) (by decide +kernel), List.mem_of_getElem? (i := 633) (by decide +kernel)⟩
theorem lw_p18 : lw_okq (⟨"LockStaircase$RuleRun", "isFromBelowNext", "(LLockStaircase$Fleet;LLockStaircase$Line;LLockStaircase$Line;ZI)Z"⟩, 3) := ⟨⟨by decide +kernel, by decide +kernel⟩, List.mem_of_getElem? (i := 207) (by decide +kernel), List.mem_of_getElem? (i := 641) (by decide +kernel), List.mem_of_getElem? (i := 642) (by decide +kernel)⟩
theorem lw_p19 : lw_okq (⟨"LockStaircase", "moveOnFirst", "(LLockStaircase$Line;I)V"⟩, 14) := ⟨⟨by decide +kernel, by decide +kernel⟩, List.mem_of_getElem? (i := 15) (by decide +kernel), List.mem_of_getElem? (i := 661) (by decide +kernel), List.mem_of_getElem? (i := 662) (by decide +kernel)⟩
theorem lw_p20 : lw_okq (⟨"LockStaircase$Canal", "loseAndGain", "()V"⟩, 13) := ⟨⟨by decide +kernel, by decide +kernel⟩, List.mem_of_getElem? (i := 23) (by decide +kernel), List.mem_of_getElem? (i := 680) (by decide +kernel), List.mem_of_getElem? (i := 681) (by decide +kernel)⟩
theorem lw_p21 : lw_okq (⟨"LockStaircase", "summitInThought", "(III)I"⟩, 14) := ⟨⟨by decide +kernel, by decide +kernel⟩, List.mem_of_getElem? (i := 15) (by decide +kernel), List.mem_of_getElem? (i := 697) (by decide +kernel), List.mem_of_getElem? (i := 698) (by decide +kernel)⟩
theorem lw_p22 : lw_okq (⟨"LockStaircaseModel", "begins", "(I)V"⟩, 29) := ⟨⟨by decide +kernel, by decide +kernel⟩, List.mem_of_getElem? (i := 760) (by decide +kernel), List.mem_of_getElem? (i := 766) (by decide +kernel), List.mem_of_getElem? (i := 767) (by decide +kernel)⟩
theorem lw_p23 : lw_okq (⟨"LockStaircaseModel", "isLock", "(I)Z"⟩, 29) := ⟨⟨by decide +kernel, by decide +kernel⟩, List.mem_of_getElem? (i := 760) (by decide +kernel), List.mem_of_getElem? (i := 869) (by decide +kernel), List.mem_of_getElem? (i := 870) (by decide +kernel)⟩
theorem lw_p24 : lw_okq (⟨"LockStaircaseModel", "becomes", "(II)I"⟩, 29) := ⟨⟨by decide +kernel, by decide +kernel⟩, List.mem_of_getElem? (i := 760) (by decide +kernel), List.mem_of_getElem? (i := 873) (by decide +kernel), List.mem_of_getElem? (i := 874) (by decide +kernel)⟩
theorem lw_p25 : lw_okq (⟨"LockStaircaseModel", "share", "(I)I"⟩, 29) := ⟨⟨by decide +kernel, by decide +kernel⟩, List.mem_of_getElem? (i := 760) (by decide +kernel), List.mem_of_getElem? (i := 881) (by decide +kernel), List.mem_of_getElem? (i := 882) (by decide +kernel)⟩
theorem lw_p26 : lw_okq (⟨"LockStaircaseModel", "isReach", "(I)Z"⟩, 29) := ⟨⟨by decide +kernel, by decide +kernel⟩, List.mem_of_getElem? (i := 760) (by decide +kernel), List.mem_of_getElem? (i := 889) (by decide +kernel), List.mem_of_getElem? (i := 890) (by decide +kernel)⟩
theorem lw_p27 : lw_okq (⟨"LockStaircaseModel", "readsBoat", "()V"⟩, 29) := ⟨⟨by decide +kernel, by decide +kernel⟩, List.mem_of_getElem? (i := 760) (by decide +kernel), List.mem_of_getElem? (i := 909) (by decide +kernel), List.mem_of_getElem? (i := 910) (by decide +kernel)⟩
theorem lw_p28 : lw_okq (⟨"LockStaircaseModel", "name", "()I"⟩, 29) := ⟨⟨by decide +kernel, by decide +kernel⟩, List.mem_of_getElem? (i := 760) (by decide +kernel), List.mem_of_getElem? (i := 913) (by decide +kernel), List.mem_of_getElem? (i := 914) (by decide +kernel)⟩
theorem lw_p29 : lw_okq (⟨"LockStaircaseModel", "isFrom", "(II)Z"⟩, 29) := ⟨⟨by decide +kernel, by decide +kernel⟩, List.mem_of_getElem? (i := 760) (by decide +kernel), List.mem_of_getElem? (i := 917) (by decide +kernel), List.mem_of_getElem? (i := 918) (by decide +kernel)⟩
theorem lw_p30 : lw_okq (⟨"LockStaircaseModel", "wrong", "()V"⟩, 29) := ⟨⟨by decide +kernel, by decide +kernel⟩, List.mem_of_getElem? (i := 760) (by decide +kernel), List.mem_of_getElem? (i := 921) (by decide +kernel), List.mem_of_getElem? (i := 922) (by decide +kernel)⟩
theorem lw_p31 : lw_okq (⟨"LockStaircaseModel", "figure", "(I)I"⟩, 29) := ⟨⟨by decide +kernel, by decide +kernel⟩, List.mem_of_getElem? (i := 760) (by decide +kernel), List.mem_of_getElem? (i := 925) (by decide +kernel), List.mem_of_getElem? (i := 926) (by decide +kernel)⟩
def lw_privs_2 : List (MethodName × Nat) := [(⟨"LockStaircase", "boatOfBest", "(I)I"⟩, 14), (⟨"LockStaircase", "runInThought", "(II)V"⟩, 14), (⟨"LockStaircase$RuleRun", "isFromBelowNext", "(LLockStaircase$Fleet;LLockStaircase$Line;LLockStaircase$Line;ZI)Z"⟩, 3), (⟨"LockStaircase", "moveOnFirst", "(LLockStaircase$Line;I)V"⟩, 14), (⟨"LockStaircase$Canal", "loseAndGain", "()V"⟩, 13), (⟨"LockStaircase", "summitInThought", "(III)I"⟩, 14), (⟨"LockStaircaseModel", "begins", "(I)V"⟩, 29), (⟨"LockStaircaseModel", "isLock", "(I)Z"⟩, 29), (⟨"LockStaircaseModel", "becomes", "(II)I"⟩, 29), (⟨"LockStaircaseModel", "share", "(I)I"⟩, 29), (⟨"LockStaircaseModel", "isReach", "(I)Z"⟩, 29), (⟨"LockStaircaseModel", "readsBoat", "()V"⟩, 29), (⟨"LockStaircaseModel", "name", "()I"⟩, 29), (⟨"LockStaircaseModel", "isFrom", "(II)Z"⟩, 29), (⟨"LockStaircaseModel", "wrong", "()V"⟩, 29), (⟨"LockStaircaseModel", "figure", "(I)I"⟩, 29)]
theorem lw_r2 : ∀ q ∈ lw_privs_2, lw_okq q := List.forall_mem_cons.mpr ⟨lw_p16, List.forall_mem_cons.mpr ⟨lw_p17, List.forall_mem_cons.mpr ⟨lw_p18, List.forall_mem_cons.mpr ⟨lw_p19, List.forall_mem_cons.mpr ⟨lw_p20, List.forall_mem_cons.mpr ⟨lw_p21, List.forall_mem_cons.mpr ⟨lw_p22, List.forall_mem_cons.mpr ⟨lw_p23, List.forall_mem_cons.mpr ⟨lw_p24, List.forall_mem_cons.mpr ⟨lw_p25, List.forall_mem_cons.mpr ⟨lw_p26, List.forall_mem_cons.mpr ⟨lw_p27, List.forall_mem_cons.mpr ⟨lw_p28, List.forall_mem_cons.mpr ⟨lw_p29, List.forall_mem_cons.mpr ⟨lw_p30, List.forall_mem_cons.mpr ⟨lw_p31, fun _ h => absurd h List.not_mem_nil⟩⟩⟩⟩⟩⟩⟩⟩⟩⟩⟩⟩⟩⟩⟩⟩
theorem lw_p32 : lw_okq (⟨"LockStaircaseModel", "comes", "(I)Z"⟩, 29) := ⟨⟨by decide +kernel, by decide +kernel⟩, List.mem_of_getElem? (i := 760) (by decide +kernel), List.mem_of_getElem? (i := 932) (by decide +kernel), List.mem_of_getElem? (i := 933) (by decide +kernel)⟩
theorem lw_p33 : lw_okq (⟨"LockStaircaseModel", "where", "(I)I"⟩, 29) := ⟨⟨by decide +kernel, by decide +kernel⟩, List.mem_of_getElem? (i := 760) (by decide +kernel), List.mem_of_getElem? (i := 936) (by decide +kernel), List.mem_of_getElem? (i := 937) (by decide +kernel)⟩
theorem lw_p34 : lw_okq (⟨"LockStaircaseModel", "isThere", "(II)Z"⟩, 29) := ⟨⟨by decide +kernel, by decide +kernel⟩, List.mem_of_getElem? (i := 760) (by decide +kernel), List.mem_of_getElem? (i := 940) (by decide +kernel), List.mem_of_getElem? (i := 941) (by decide +kernel)⟩
theorem lw_p35 : lw_okq (⟨"LockStaircaseModel", "shifts", "(II)V"⟩, 29) := ⟨⟨by decide +kernel, by decide +kernel⟩, List.mem_of_getElem? (i := 760) (by decide +kernel), List.mem_of_getElem? (i := 944) (by decide +kernel), List.mem_of_getElem? (i := 945) (by decide +kernel)⟩
theorem lw_p36 : lw_okq (⟨"LockStaircaseModel", "isBoat", "(I)Z"⟩, 29) := ⟨⟨by decide +kernel, by decide +kernel⟩, List.mem_of_getElem? (i := 760) (by decide +kernel), List.mem_of_getElem? (i := 952) (by decide +kernel), List.mem_of_getElem? (i := 953) (by decide +kernel)⟩
theorem lw_p37 : lw_okq (⟨"LockStaircaseModel", "lockOf", "(I)I"⟩, 29) := ⟨⟨by decide +kernel, by decide +kernel⟩, List.mem_of_getElem? (i := 760) (by decide +kernel), List.mem_of_getElem? (i := 976) (by decide +kernel), List.mem_of_getElem? (i := 977) (by decide +kernel)⟩
theorem lw_p38 : lw_okq (⟨"LockStaircaseModel", "isUp", "(I)Z"⟩, 29) := ⟨⟨by decide +kernel, by decide +kernel⟩, List.mem_of_getElem? (i := 760) (by decide +kernel), List.mem_of_getElem? (i := 980) (by decide +kernel), List.mem_of_getElem? (i := 981) (by decide +kernel)⟩
theorem lw_p39 : lw_okq (⟨"LockStaircaseModel", "boatGoes", "(IZ)Z"⟩, 29) := ⟨⟨by decide +kernel, by decide +kernel⟩, List.mem_of_getElem? (i := 760) (by decide +kernel), List.mem_of_getElem? (i := 985) (by decide +kernel), List.mem_of_getElem? (i := 986) (by decide +kernel)⟩
theorem lw_p40 : lw_okq (⟨"LockStaircaseModel", "goesTruly", "(IZI)Z"⟩, 29) := ⟨⟨by decide +kernel, by decide +kernel⟩, List.mem_of_getElem? (i := 760) (by decide +kernel), List.mem_of_getElem? (i := 989) (by decide +kernel), List.mem_of_getElem? (i := 990) (by decide +kernel)⟩
theorem lw_p41 : lw_okq (⟨"LockStaircaseModel", "goes", "(IZI)Z"⟩, 29) := ⟨⟨by decide +kernel, by decide +kernel⟩, List.mem_of_getElem? (i := 760) (by decide +kernel), List.mem_of_getElem? (i := 993) (by decide +kernel), List.mem_of_getElem? (i := 994) (by decide +kernel)⟩
theorem lw_p42 : lw_okq (⟨"LockStaircaseModel", "empties", "(I)Z"⟩, 29) := ⟨⟨by decide +kernel, by decide +kernel⟩, List.mem_of_getElem? (i := 760) (by decide +kernel), List.mem_of_getElem? (i := 997) (by decide +kernel), List.mem_of_getElem? (i := 998) (by decide +kernel)⟩
theorem lw_p43 : lw_okq (⟨"LockStaircaseModel", "flows", "(IIII)Z"⟩, 29) := ⟨⟨by decide +kernel, by decide +kernel⟩, List.mem_of_getElem? (i := 760) (by decide +kernel), List.mem_of_getElem? (i := 1001) (by decide +kernel), List.mem_of_getElem? (i := 1002) (by decide +kernel)⟩
theorem lw_p44 : lw_okq (⟨"LockStaircaseModel", "fills", "(I)Z"⟩, 29) := ⟨⟨by decide +kernel, by decide +kernel⟩, List.mem_of_getElem? (i := 760) (by decide +kernel), List.mem_of_getElem? (i := 1005) (by decide +kernel), List.mem_of_getElem? (i := 1006) (by decide +kernel)⟩
theorem lw_p45 : lw_okq (⟨"LockStaircaseModel", "queuesOf", "(I)V"⟩, 29) := ⟨⟨by decide +kernel, by decide +kernel⟩, List.mem_of_getElem? (i := 760) (by decide +kernel), List.mem_of_getElem? (i := 1026) (by decide +kernel), List.mem_of_getElem? (i := 1027) (by decide +kernel)⟩
theorem lw_p46 : lw_okq (⟨"LockStaircaseModel", "queues", "(II[I)I"⟩, 29) := ⟨⟨by decide +kernel, by decide +kernel⟩, List.mem_of_getElem? (i := 760) (by decide +kernel), List.mem_of_getElem? (i := 1030) (by decide +kernel), List.mem_of_getElem? (i := 1031) (by decide +kernel)⟩
theorem lw_p47 : lw_okq (⟨"LockStaircaseModel", "weavesAll", "(I)V"⟩, 29) := ⟨⟨by decide +kernel, by decide +kernel⟩, List.mem_of_getElem? (i := 760) (by decide +kernel), List.mem_of_getElem? (i := 1038) (by decide +kernel), List.mem_of_getElem? (i := 1039) (by decide +kernel)⟩
def lw_privs_3 : List (MethodName × Nat) := [(⟨"LockStaircaseModel", "comes", "(I)Z"⟩, 29), (⟨"LockStaircaseModel", "where", "(I)I"⟩, 29), (⟨"LockStaircaseModel", "isThere", "(II)Z"⟩, 29), (⟨"LockStaircaseModel", "shifts", "(II)V"⟩, 29), (⟨"LockStaircaseModel", "isBoat", "(I)Z"⟩, 29), (⟨"LockStaircaseModel", "lockOf", "(I)I"⟩, 29), (⟨"LockStaircaseModel", "isUp", "(I)Z"⟩, 29), (⟨"LockStaircaseModel", "boatGoes", "(IZ)Z"⟩, 29), (⟨"LockStaircaseModel", "goesTruly", "(IZI)Z"⟩, 29), (⟨"LockStaircaseModel", "goes", "(IZI)Z"⟩, 29), (⟨"LockStaircaseModel", "empties", "(I)Z"⟩, 29), (⟨"LockStaircaseModel", "flows", "(IIII)Z"⟩, 29), (⟨"LockStaircaseModel", "fills", "(I)Z"⟩, 29), (⟨"LockStaircaseModel", "queuesOf", "(I)V"⟩, 29), (⟨"LockStaircaseModel", "queues", "(II[I)I"⟩, 29), (⟨"LockStaircaseModel", "weavesAll", "(I)V"⟩, 29)]
theorem lw_r3 : ∀ q ∈ lw_privs_3, lw_okq q := List.forall_mem_cons.mpr ⟨lw_p32, List.forall_mem_cons.mpr ⟨lw_p33, List.forall_mem_cons.mpr ⟨lw_p34, List.forall_mem_cons.mpr ⟨lw_p35, List.forall_mem_cons.mpr ⟨lw_p36, List.forall_mem_cons.mpr ⟨lw_p37, List.forall_mem_cons.mpr ⟨lw_p38, List.forall_mem_cons.mpr ⟨lw_p39, List.forall_mem_cons.mpr ⟨lw_p40, List.forall_mem_cons.mpr ⟨lw_p41, List.forall_mem_cons.mpr ⟨lw_p42, List.forall_mem_cons.mpr ⟨lw_p43, List.forall_mem_cons.mpr ⟨lw_p44, List.forall_mem_cons.mpr ⟨lw_p45, List.forall_mem_cons.mpr ⟨lw_p46, List.forall_mem_cons.mpr ⟨lw_p47, fun _ h => absurd h List.not_mem_nil⟩⟩⟩⟩⟩⟩⟩⟩⟩⟩⟩⟩⟩⟩⟩⟩
theorem lw_p48 : lw_okq (⟨"LockStaircaseModel", "weaves", "(IIII)V"⟩, 29) := ⟨⟨by decide +kernel, by decide +kernel⟩, List.mem_of_getElem? (i := 760) (by decide +kernel), List.mem_of_getElem? (i := 1043) (by decide +kernel), List.mem_of_getElem? (i := 1044) (by decide +kernel)⟩
theorem lw_p49 : lw_okq (⟨"LockStaircaseModel", "runs", "(IIZ)V"⟩, 29) := ⟨⟨by decide +kernel, by decide +kernel⟩, List.mem_of_getElem? (i := 760) (by decide +kernel), List.mem_of_getElem? (i := 1056) (by decide +kernel), List.mem_of_getElem? (i := 1057) (by decide +kernel)⟩
theorem lw_p50 : lw_okq (⟨"LockStaircaseModel", "isFromBelow", "(IIII)Z"⟩, 29) := ⟨⟨by decide +kernel, by decide +kernel⟩, List.mem_of_getElem? (i := 760) (by decide +kernel), List.mem_of_getElem? (i := 1060) (by decide +kernel), List.mem_of_getElem? (i := 1061) (by decide +kernel)⟩
theorem lw_p51 : lw_okq (⟨"LockStaircaseModel", "dayGoes", "(IIZ)V"⟩, 29) := ⟨⟨by decide +kernel, by decide +kernel⟩, List.mem_of_getElem? (i := 760) (by decide +kernel), List.mem_of_getElem? (i := 1079) (by decide +kernel), List.mem_of_getElem? (i := 1080) (by decide +kernel)⟩
theorem lw_p52 : lw_okq (⟨"LockStaircaseModel", "crosses", "(ZZ)Z"⟩, 29) := ⟨⟨by decide +kernel, by decide +kernel⟩, List.mem_of_getElem? (i := 760) (by decide +kernel), List.mem_of_getElem? (i := 1084) (by decide +kernel), List.mem_of_getElem? (i := 1085) (by decide +kernel)⟩
theorem lw_p53 : lw_okq (⟨"LockStaircaseModel", "summit", "(III)I"⟩, 29) := ⟨⟨by decide +kernel, by decide +kernel⟩, List.mem_of_getElem? (i := 760) (by decide +kernel), List.mem_of_getElem? (i := 1096) (by decide +kernel), List.mem_of_getElem? (i := 1097) (by decide +kernel)⟩
def lw_privs_4 : List (MethodName × Nat) := [(⟨"LockStaircaseModel", "weaves", "(IIII)V"⟩, 29), (⟨"LockStaircaseModel", "runs", "(IIZ)V"⟩, 29), (⟨"LockStaircaseModel", "isFromBelow", "(IIII)Z"⟩, 29), (⟨"LockStaircaseModel", "dayGoes", "(IIZ)V"⟩, 29), (⟨"LockStaircaseModel", "crosses", "(ZZ)Z"⟩, 29), (⟨"LockStaircaseModel", "summit", "(III)I"⟩, 29)]
theorem lw_r4 : ∀ q ∈ lw_privs_4, lw_okq q := List.forall_mem_cons.mpr ⟨lw_p48, List.forall_mem_cons.mpr ⟨lw_p49, List.forall_mem_cons.mpr ⟨lw_p50, List.forall_mem_cons.mpr ⟨lw_p51, List.forall_mem_cons.mpr ⟨lw_p52, List.forall_mem_cons.mpr ⟨lw_p53, fun _ h => absurd h List.not_mem_nil⟩⟩⟩⟩⟩⟩
def lw_privs : List (MethodName × Nat) := lw_privs_1 ++ (lw_privs_2 ++ (lw_privs_3 ++ (lw_privs_4)))
def lw_tbl : List Cond := k2_sels lw_privs ++ tables_1
theorem lw_privs_ok : ∀ q ∈ lw_privs, lw_okq q := by
  show ∀ q ∈ lw_privs_1 ++ (lw_privs_2 ++ (lw_privs_3 ++ (lw_privs_4))), lw_okq q
  exact List.forall_mem_append.mpr ⟨lw_r1, List.forall_mem_append.mpr ⟨lw_r2, List.forall_mem_append.mpr ⟨lw_r3, lw_r4⟩⟩⟩
end
section

/-! ===== BEGIN printed: names, fields, word lists, decode rows ===== -/
def RX0 : String := "LockStaircase$Canal"
def TX0 : u_T := fun k => match k with
  | 0 => ("LockStaircase$Canal", "locks", "I", false)
  | 1 => ("LockStaircase$Canal", "inflow", "I", false)
  | 2 => ("LockStaircase$Canal", "lockful", "[I", true)
  | 3 => ("LockStaircase$Canal", "ponds", "[I", true)
  | 4 => ("LockStaircase$Canal", "held", "[I", true)
  | 5 => ("LockStaircase$Canal", "full", "[Z", true)
  | 6 => ("LockStaircase$Canal", "level", "[I", true)
  | 7 => ("LockStaircase$Canal", "least", "[I", true)
  | 8 => ("LockStaircase$Canal", "most", "[I", true)
  | 9 => ("LockStaircase$Canal", "loss", "[I", true)
  | 10 => ("LockStaircase$Canal", "tally", "LLockStaircase$Tally;", true)
  | 11 => ("LockStaircase$Canal", "cause", "LLockStaircase$Cause;", true)
  | _ => ("LockStaircase$Canal", "barred", "Z", false)
def tyX0 : Nat → FieldType := fun k => match k with
  | 0 => .int
  | 1 => .int
  | 2 => .array .int
  | 3 => .array .int
  | 4 => .array .int
  | 5 => .array .boolean
  | 6 => .array .int
  | 7 => .array .int
  | 8 => .array .int
  | 9 => .array .int
  | 10 => .object "LockStaircase$Tally"
  | 11 => .object "LockStaircase$Cause"
  | _ => .boolean
abbrev wsX00 : List Cond := u_ws RX0 TX0 13
theorem nmX0 : ∀ a, a < 13 → ∀ b, b < 13 → a ≠ b → (TX0 a).2.1 ≠ (TX0 b).2.1 := by decide +kernel
theorem tyX0_ok : ∀ k, k < 13 → parseFieldDescriptor (TX0 k).2.2.1 = some (tyX0 k) := by decide +kernel
abbrev cX0_init : ByteArray := prog_2_method_1_code
def yX0_init : MethodName := ⟨RX0, "<init>", "()V"⟩
abbrev cX0_reset : ByteArray := prog_2_method_2_code
def yX0_reset : MethodName := ⟨RX0, "reset", "(I)V"⟩
abbrev cX0_copyFrom : ByteArray := prog_2_method_3_code
def yX0_copyFrom : MethodName := ⟨RX0, "copyFrom", "(LLockStaircase$Canal;)V"⟩
abbrev cX0_copyLockFrom : ByteArray := prog_2_method_4_code
def yX0_copyLockFrom : MethodName := ⟨RX0, "copyLockFrom", "(LLockStaircase$Canal;I)V"⟩
abbrev cX0_hasLock : ByteArray := prog_2_method_5_code
def yX0_hasLock : MethodName := ⟨RX0, "hasLock", "(I)Z"⟩
abbrev cX0_hasReach : ByteArray := prog_2_method_6_code
def yX0_hasReach : MethodName := ⟨RX0, "hasReach", "(I)Z"⟩
abbrev cX0_isAtRest : ByteArray := prog_2_method_7_code
def yX0_isAtRest : MethodName := ⟨RX0, "isAtRest", "(I)Z"⟩
abbrev cX0_share : ByteArray := prog_2_method_8_code
def yX0_share : MethodName := ⟨RX0, "share", "(I)I"⟩
abbrev cX0_lockNumber : ByteArray := prog_2_method_9_code
def yX0_lockNumber : MethodName := ⟨RX0, "lockNumber", "(II)I"⟩
abbrev cX0_reachNumber : ByteArray := prog_2_method_10_code
def yX0_reachNumber : MethodName := ⟨RX0, "reachNumber", "(II)I"⟩
abbrev cX0_setReach : ByteArray := prog_2_method_11_code
def yX0_setReach : MethodName := ⟨RX0, "setReach", "(III)V"⟩
abbrev cX0_lockFrom : ByteArray := prog_2_method_12_code
def yX0_lockFrom : MethodName := ⟨RX0, "lockFrom", "(IZ)I"⟩
abbrev cX0_passage : ByteArray := prog_2_method_13_code
def yX0_passage : MethodName := ⟨RX0, "passage", "(IZI)I"⟩
abbrev cX0_fills : ByteArray := prog_2_method_14_code
def yX0_fills : MethodName := ⟨RX0, "fills", "(I)Z"⟩
abbrev cX0_empties : ByteArray := prog_2_method_15_code
def yX0_empties : MethodName := ⟨RX0, "empties", "(I)Z"⟩
abbrev cX0_swaps : ByteArray := prog_2_method_16_code
def yX0_swaps : MethodName := ⟨RX0, "swaps", "(II)Z"⟩
abbrev cX0_isBarred : ByteArray := prog_2_method_17_code
def yX0_isBarred : MethodName := ⟨RX0, "isBarred", "(IIII)Z"⟩
abbrev cX0_travel : ByteArray := prog_2_method_18_code
def yX0_travel : MethodName := ⟨RX0, "travel", "(IZI)I"⟩
abbrev cX0_wholeDay : ByteArray := prog_2_method_19_code
def yX0_wholeDay : MethodName := ⟨RX0, "wholeDay", "(II)I"⟩
abbrev cX0_loseAndGain : ByteArray := prog_2_method_20_code
def yX0_loseAndGain : MethodName := ⟨RX0, "loseAndGain", "()V"⟩
abbrev cX0_summitWater : ByteArray := prog_2_method_21_code
def yX0_summitWater : MethodName := ⟨RX0, "summitWater", "()I"⟩
abbrev cX0_allWater : ByteArray := prog_2_method_22_code
def yX0_allWater : MethodName := ⟨RX0, "allWater", "()I"⟩
abbrev cX0_leastLevelOver : ByteArray := prog_2_method_23_code
def yX0_leastLevelOver : MethodName := ⟨RX0, "leastLevelOver", "(I)I"⟩
abbrev cX0_fullLocks : ByteArray := prog_2_method_24_code
def yX0_fullLocks : MethodName := ⟨RX0, "fullLocks", "()I"⟩
def RX1 : String := "LockStaircase$Cause"
def TX1 : u_T := fun k => match k with
  | 0 => ("LockStaircase$Cause", "known", "Z", false)
  | 1 => ("LockStaircase$Cause", "lock", "I", false)
  | 2 => ("LockStaircase$Cause", "step", "I", false)
  | 3 => ("LockStaircase$Cause", "reach", "I", false)
  | _ => ("LockStaircase$Cause", "side", "I", false)
def tyX1 : Nat → FieldType := fun k => match k with
  | 0 => .boolean
  | 1 => .int
  | 2 => .int
  | 3 => .int
  | _ => .int
abbrev wsX10 : List Cond := u_ws RX1 TX1 5
theorem nmX1 : ∀ a, a < 5 → ∀ b, b < 5 → a ≠ b → (TX1 a).2.1 ≠ (TX1 b).2.1 := by decide +kernel
theorem tyX1_ok : ∀ k, k < 5 → parseFieldDescriptor (TX1 k).2.2.1 = some (tyX1 k) := by decide +kernel
abbrev cX1_init : ByteArray := prog_3_method_1_code
def yX1_init : MethodName := ⟨RX1, "<init>", "()V"⟩
abbrev cX1_number : ByteArray := prog_3_method_2_code
def yX1_number : MethodName := ⟨RX1, "number", "(I)I"⟩
def RX2 : String := "LockStaircase$Fleet"
def TX2 : u_T := fun k => match k with
  | 0 => ("LockStaircase$Fleet", "name", "[I", true)
  | 1 => ("LockStaircase$Fleet", "size", "[I", true)
  | 2 => ("LockStaircase$Fleet", "rank", "[I", true)
  | 3 => ("LockStaircase$Fleet", "up", "[Z", true)
  | 4 => ("LockStaircase$Fleet", "reach", "[I", true)
  | _ => ("LockStaircase$Fleet", "count", "I", false)
def tyX2 : Nat → FieldType := fun k => match k with
  | 0 => .array .int
  | 1 => .array .int
  | 2 => .array .int
  | 3 => .array .boolean
  | 4 => .array .int
  | _ => .int
abbrev wsX20 : List Cond := u_ws RX2 TX2 6
theorem nmX2 : ∀ a, a < 6 → ∀ b, b < 6 → a ≠ b → (TX2 a).2.1 ≠ (TX2 b).2.1 := by decide +kernel
theorem tyX2_ok : ∀ k, k < 6 → parseFieldDescriptor (TX2 k).2.2.1 = some (tyX2 k) := by decide +kernel
abbrev cX2_init : ByteArray := prog_4_method_1_code
def yX2_init : MethodName := ⟨RX2, "<init>", "()V"⟩
abbrev cX2_copyFrom : ByteArray := prog_4_method_2_code
def yX2_copyFrom : MethodName := ⟨RX2, "copyFrom", "(LLockStaircase$Fleet;)V"⟩
abbrev cX2_has : ByteArray := prog_4_method_3_code
def yX2_has : MethodName := ⟨RX2, "has", "(I)Z"⟩
abbrev cX2_numberOf : ByteArray := prog_4_method_4_code
def yX2_numberOf : MethodName := ⟨RX2, "numberOf", "(I)I"⟩
abbrev cX2_put : ByteArray := prog_4_method_5_code
def yX2_put : MethodName := ⟨RX2, "put", "(LLockStaircase$Tape;)V"⟩
abbrev cX2_placeFor : ByteArray := prog_4_method_6_code
def yX2_placeFor : MethodName := ⟨RX2, "placeFor", "(I)I"⟩
abbrev cX2_remove : ByteArray := prog_4_method_7_code
def yX2_remove : MethodName := ⟨RX2, "remove", "(I)V"⟩
abbrev cX2_copyRow : ByteArray := prog_4_method_8_code
def yX2_copyRow : MethodName := ⟨RX2, "copyRow", "(II)V"⟩
abbrev cX2_moveOn : ByteArray := prog_4_method_9_code
def yX2_moveOn : MethodName := ⟨RX2, "moveOn", "(II)V"⟩
abbrev cX2_sizeOf : ByteArray := prog_4_method_10_code
def yX2_sizeOf : MethodName := ⟨RX2, "sizeOf", "(I)I"⟩
abbrev cX2_rankOf : ByteArray := prog_4_method_11_code
def yX2_rankOf : MethodName := ⟨RX2, "rankOf", "(I)I"⟩
abbrev cX2_countIn : ByteArray := prog_4_method_12_code
def yX2_countIn : MethodName := ⟨RX2, "countIn", "(I)I"⟩
abbrev cX2_number : ByteArray := prog_4_method_13_code
def yX2_number : MethodName := ⟨RX2, "number", "(II)I"⟩
abbrev cX2_letterCount : ByteArray := prog_4_method_14_code
def yX2_letterCount : MethodName := ⟨RX2, "letterCount", "(I)I"⟩
abbrev cX2_letter : ByteArray := prog_4_method_15_code
def yX2_letter : MethodName := ⟨RX2, "letter", "(II)I"⟩
def RX3 : String := "LockStaircase$Line"
def TX3 : u_T := fun k => match k with
  | 0 => ("LockStaircase$Line", "boats", "[I", true)
  | _ => ("LockStaircase$Line", "count", "I", false)
def tyX3 : Nat → FieldType := fun k => match k with
  | 0 => .array .int
  | _ => .int
abbrev wsX30 : List Cond := u_ws RX3 TX3 2
theorem nmX3 : ∀ a, a < 2 → ∀ b, b < 2 → a ≠ b → (TX3 a).2.1 ≠ (TX3 b).2.1 := by decide +kernel
theorem tyX3_ok : ∀ k, k < 2 → parseFieldDescriptor (TX3 k).2.2.1 = some (tyX3 k) := by decide +kernel
abbrev cX3_init : ByteArray := prog_5_method_1_code
def yX3_init : MethodName := ⟨RX3, "<init>", "()V"⟩
abbrev cX3_boatAt : ByteArray := prog_5_method_2_code
def yX3_boatAt : MethodName := ⟨RX3, "boatAt", "(I)I"⟩
abbrev cX3_gather : ByteArray := prog_5_method_3_code
def yX3_gather : MethodName := ⟨RX3, "gather", "(LLockStaircase$Fleet;IZ)V"⟩
abbrev cX3_join : ByteArray := prog_5_method_4_code
def yX3_join : MethodName := ⟨RX3, "join", "(LLockStaircase$Fleet;I)V"⟩
def RX4 : String := "LockStaircase$RuleRun"
def TX4 : u_T := fun k => match k with
  | 0 => ("LockStaircase$RuleRun", "fromBelow", "I", false)
  | 1 => ("LockStaircase$RuleRun", "fromAbove", "I", false)
  | _ => ("LockStaircase$RuleRun", "spent", "I", false)
def tyX4 : Nat → FieldType := fun k => match k with
  | 0 => .int
  | 1 => .int
  | _ => .int
abbrev wsX40 : List Cond := u_ws RX4 TX4 3
theorem nmX4 : ∀ a, a < 3 → ∀ b, b < 3 → a ≠ b → (TX4 a).2.1 ≠ (TX4 b).2.1 := by decide +kernel
theorem tyX4_ok : ∀ k, k < 3 → parseFieldDescriptor (TX4 k).2.2.1 = some (tyX4 k) := by decide +kernel
abbrev cX4_init : ByteArray := prog_6_method_1_code
def yX4_init : MethodName := ⟨RX4, "<init>", "()V"⟩
abbrev cX4_done : ByteArray := prog_6_method_2_code
def yX4_done : MethodName := ⟨RX4, "done", "()I"⟩
abbrev cX4_go : ByteArray := prog_6_method_3_code
def yX4_go : MethodName := ⟨RX4, "go", "(LLockStaircase$Canal;LLockStaircase$Fleet;LLockStaircase$Line;LLockStaircase$Line;II)V"⟩
abbrev cX4_isFromBelowNext : ByteArray := prog_6_method_4_code
def yX4_isFromBelowNext : MethodName := ⟨RX4, "isFromBelowNext", "(LLockStaircase$Fleet;LLockStaircase$Line;LLockStaircase$Line;ZI)Z"⟩
abbrev cX4_isAhead : ByteArray := prog_6_method_5_code
def yX4_isAhead : MethodName := ⟨RX4, "isAhead", "(LLockStaircase$Fleet;II)Z"⟩
def RX5 : String := "LockStaircase$Tally"
def TX5 : u_T := fun k => match k with
  | _ => ("LockStaircase$Tally", "often", "[I", true)
def tyX5 : Nat → FieldType := fun k => match k with
  | _ => .array .int
abbrev wsX50 : List Cond := u_ws RX5 TX5 1
theorem nmX5 : ∀ a, a < 1 → ∀ b, b < 1 → a ≠ b → (TX5 a).2.1 ≠ (TX5 b).2.1 := by decide +kernel
theorem tyX5_ok : ∀ k, k < 1 → parseFieldDescriptor (TX5 k).2.2.1 = some (tyX5 k) := by decide +kernel
abbrev cX5_init : ByteArray := prog_7_method_1_code
def yX5_init : MethodName := ⟨RX5, "<init>", "()V"⟩
abbrev cX5_copyFrom : ByteArray := prog_7_method_2_code
def yX5_copyFrom : MethodName := ⟨RX5, "copyFrom", "(LLockStaircase$Tally;)V"⟩
abbrev cX5_add : ByteArray := prog_7_method_3_code
def yX5_add : MethodName := ⟨RX5, "add", "(I)V"⟩
abbrev cX5_unlike : ByteArray := prog_7_method_4_code
def yX5_unlike : MethodName := ⟨RX5, "unlike", "()I"⟩
abbrev cX5_upTo : ByteArray := prog_7_method_5_code
def yX5_upTo : MethodName := ⟨RX5, "upTo", "(I)I"⟩
abbrev cX5_row : ByteArray := prog_7_method_6_code
def yX5_row : MethodName := ⟨RX5, "row", "(IZ)I"⟩
def RX6 : String := "LockStaircase$Tape"
def TX6 : u_T := fun k => match k with
  | 0 => ("LockStaircase$Tape", "bytes", "[I", true)
  | 1 => ("LockStaircase$Tape", "length", "I", false)
  | 2 => ("LockStaircase$Tape", "at", "I", false)
  | 3 => ("LockStaircase$Tape", "name", "I", false)
  | 4 => ("LockStaircase$Tape", "up", "Z", false)
  | 5 => ("LockStaircase$Tape", "size", "I", false)
  | 6 => ("LockStaircase$Tape", "rank", "I", false)
  | _ => ("LockStaircase$Tape", "reach", "I", false)
def tyX6 : Nat → FieldType := fun k => match k with
  | 0 => .array .int
  | 1 => .int
  | 2 => .int
  | 3 => .int
  | 4 => .boolean
  | 5 => .int
  | 6 => .int
  | _ => .int
abbrev wsX60 : List Cond := u_ws RX6 TX6 8
theorem nmX6 : ∀ a, a < 8 → ∀ b, b < 8 → a ≠ b → (TX6 a).2.1 ≠ (TX6 b).2.1 := by decide +kernel
theorem tyX6_ok : ∀ k, k < 8 → parseFieldDescriptor (TX6 k).2.2.1 = some (tyX6 k) := by decide +kernel
abbrev cX6_init : ByteArray := prog_8_method_1_code
def yX6_init : MethodName := ⟨RX6, "<init>", "()V"⟩
abbrev cX6_append : ByteArray := prog_8_method_2_code
def yX6_append : MethodName := ⟨RX6, "append", "(I)Z"⟩
abbrev cX6_current : ByteArray := prog_8_method_3_code
def yX6_current : MethodName := ⟨RX6, "current", "()I"⟩
abbrev cX6_isAtEnd : ByteArray := prog_8_method_4_code
def yX6_isAtEnd : MethodName := ⟨RX6, "isAtEnd", "()Z"⟩
abbrev cX6_readBoat : ByteArray := prog_8_method_5_code
def yX6_readBoat : MethodName := ⟨RX6, "readBoat", "(I)Z"⟩
abbrev cX6_readName : ByteArray := prog_8_method_6_code
def yX6_readName : MethodName := ⟨RX6, "readName", "()I"⟩
abbrev cX6_readWay : ByteArray := prog_8_method_7_code
def yX6_readWay : MethodName := ⟨RX6, "readWay", "()Z"⟩
abbrev cX6_readFigure : ByteArray := prog_8_method_8_code
def yX6_readFigure : MethodName := ⟨RX6, "readFigure", "(I)I"⟩
abbrev cX6_readComma : ByteArray := prog_8_method_9_code
def yX6_readComma : MethodName := ⟨RX6, "readComma", "()Z"⟩
def RX7 : String := "LockStaircase$Weaving"
def TX7 : u_T := fun k => match k with
  | 0 => ("LockStaircase$Weaving", "boats", "I", false)
  | 1 => ("LockStaircase$Weaving", "fromAbove", "I", false)
  | 2 => ("LockStaircase$Weaving", "good", "I", false)
  | 3 => ("LockStaircase$Weaving", "leastSpent", "I", false)
  | _ => ("LockStaircase$Weaving", "bestMask", "I", false)
def tyX7 : Nat → FieldType := fun k => match k with
  | 0 => .int
  | 1 => .int
  | 2 => .int
  | 3 => .int
  | _ => .int
abbrev wsX70 : List Cond := u_ws RX7 TX7 5
theorem nmX7 : ∀ a, a < 5 → ∀ b, b < 5 → a ≠ b → (TX7 a).2.1 ≠ (TX7 b).2.1 := by decide +kernel
theorem tyX7_ok : ∀ k, k < 5 → parseFieldDescriptor (TX7 k).2.2.1 = some (tyX7 k) := by decide +kernel
abbrev cX7_init : ByteArray := prog_9_method_1_code
def yX7_init : MethodName := ⟨RX7, "<init>", "()V"⟩
abbrev cX7_begin : ByteArray := prog_9_method_2_code
def yX7_begin : MethodName := ⟨RX7, "begin", "(LLockStaircase$Line;LLockStaircase$Line;)V"⟩
abbrev cX7_isOrder : ByteArray := prog_9_method_3_code
def yX7_isOrder : MethodName := ⟨RX7, "isOrder", "(I)Z"⟩
abbrev cX7_isFromBelow : ByteArray := prog_9_method_4_code
def yX7_isFromBelow : MethodName := ⟨RX7, "isFromBelow", "(II)Z"⟩
abbrev cX7_weigh : ByteArray := prog_9_method_5_code
def yX7_weigh : MethodName := ⟨RX7, "weigh", "(II)V"⟩
def RX8 : String := "LockStaircase"
def TX8 : u_T := fun k => match k with
  | 0 => ("LockStaircase", "canal", "LLockStaircase$Canal;", true)
  | 1 => ("LockStaircase", "fleet", "LLockStaircase$Fleet;", true)
  | 2 => ("LockStaircase", "tape", "LLockStaircase$Tape;", true)
  | 3 => ("LockStaircase", "accountNow", "J", false)
  | 4 => ("LockStaircase", "imageCanal", "LLockStaircase$Canal;", true)
  | 5 => ("LockStaircase", "imageFleet", "LLockStaircase$Fleet;", true)
  | 6 => ("LockStaircase", "imageAccount", "J", false)
  | 7 => ("LockStaircase", "imageTaken", "Z", false)
  | 8 => ("LockStaircase", "thought", "LLockStaircase$Canal;", true)
  | 9 => ("LockStaircase", "thoughtFleet", "LLockStaircase$Fleet;", true)
  | 10 => ("LockStaircase", "below", "LLockStaircase$Line;", true)
  | 11 => ("LockStaircase", "above", "LLockStaircase$Line;", true)
  | 12 => ("LockStaircase", "ruleRun", "LLockStaircase$RuleRun;", true)
  | _ => ("LockStaircase", "weaving", "LLockStaircase$Weaving;", true)
def tyX8 : Nat → FieldType := fun k => match k with
  | 0 => .object "LockStaircase$Canal"
  | 1 => .object "LockStaircase$Fleet"
  | 2 => .object "LockStaircase$Tape"
  | 3 => .long
  | 4 => .object "LockStaircase$Canal"
  | 5 => .object "LockStaircase$Fleet"
  | 6 => .long
  | 7 => .boolean
  | 8 => .object "LockStaircase$Canal"
  | 9 => .object "LockStaircase$Fleet"
  | 10 => .object "LockStaircase$Line"
  | 11 => .object "LockStaircase$Line"
  | 12 => .object "LockStaircase$RuleRun"
  | _ => .object "LockStaircase$Weaving"
abbrev wsX80 : List Cond := u_ws RX8 TX8 14
theorem nmX8 : ∀ a, a < 14 → ∀ b, b < 14 → a ≠ b → (TX8 a).2.1 ≠ (TX8 b).2.1 := by decide +kernel
theorem tyX8_ok : ∀ k, k < 14 → parseFieldDescriptor (TX8 k).2.2.1 = some (tyX8 k) := by decide +kernel
abbrev cX8_init : ByteArray := prog_1_method_1_code
def yX8_init : MethodName := ⟨RX8, "<init>", "()V"⟩
abbrev cX8_locks : ByteArray := prog_1_method_2_code
def yX8_locks : MethodName := ⟨RX8, "locks", "(I)I"⟩
abbrev cX8_lock : ByteArray := prog_1_method_3_code
def yX8_lock : MethodName := ⟨RX8, "lock", "(III)I"⟩
abbrev cX8_isLockSetting : ByteArray := prog_1_method_4_code
def yX8_isLockSetting : MethodName := ⟨RX8, "isLockSetting", "(II)Z"⟩
abbrev cX8_ofLock : ByteArray := prog_1_method_5_code
def yX8_ofLock : MethodName := ⟨RX8, "ofLock", "(II)I"⟩
abbrev cX8_reach : ByteArray := prog_1_method_6_code
def yX8_reach : MethodName := ⟨RX8, "reach", "(III)I"⟩
abbrev cX8_isReachSetting : ByteArray := prog_1_method_7_code
def yX8_isReachSetting : MethodName := ⟨RX8, "isReachSetting", "(II)Z"⟩
abbrev cX8_ofReach : ByteArray := prog_1_method_8_code
def yX8_ofReach : MethodName := ⟨RX8, "ofReach", "(II)I"⟩
abbrev cX8_feeds : ByteArray := prog_1_method_9_code
def yX8_feeds : MethodName := ⟨RX8, "feeds", "(I)I"⟩
abbrev cX8_feed : ByteArray := prog_1_method_10_code
def yX8_feed : MethodName := ⟨RX8, "feed", "(I)I"⟩
abbrev cX8_boats : ByteArray := prog_1_method_11_code
def yX8_boats : MethodName := ⟨RX8, "boats", "()I"⟩
abbrev cX8_readBoats : ByteArray := prog_1_method_12_code
def yX8_readBoats : MethodName := ⟨RX8, "readBoats", "()I"⟩
abbrev cX8_takeFleetInThought : ByteArray := prog_1_method_13_code
def yX8_takeFleetInThought : MethodName := ⟨RX8, "takeFleetInThought", "(I)I"⟩
abbrev cX8_boat : ByteArray := prog_1_method_14_code
def yX8_boat : MethodName := ⟨RX8, "boat", "(II)I"⟩
abbrev cX8_find : ByteArray := prog_1_method_15_code
def yX8_find : MethodName := ⟨RX8, "find", "()I"⟩
abbrev cX8_leaves : ByteArray := prog_1_method_16_code
def yX8_leaves : MethodName := ⟨RX8, "leaves", "(I)I"⟩
abbrev cX8_about : ByteArray := prog_1_method_17_code
def yX8_about : MethodName := ⟨RX8, "about", "(I)I"⟩
abbrev cX8_pass : ByteArray := prog_1_method_18_code
def yX8_pass : MethodName := ⟨RX8, "pass", "(I)I"⟩
abbrev cX8_through : ByteArray := prog_1_method_19_code
def yX8_through : MethodName := ⟨RX8, "through", "(I)I"⟩
abbrev cX8_costs : ByteArray := prog_1_method_20_code
def yX8_costs : MethodName := ⟨RX8, "costs", "(I)I"⟩
abbrev cX8_why : ByteArray := prog_1_method_21_code
def yX8_why : MethodName := ⟨RX8, "why", "(I)I"⟩
abbrev cX8_queue : ByteArray := prog_1_method_22_code
def yX8_queue : MethodName := ⟨RX8, "queue", "(II)I"⟩
abbrev cX8_lineUp : ByteArray := prog_1_method_23_code
def yX8_lineUp : MethodName := ⟨RX8, "lineUp", "(I)V"⟩
abbrev cX8_orders : ByteArray := prog_1_method_24_code
def yX8_orders : MethodName := ⟨RX8, "orders", "(I)I"⟩
abbrev cX8_weaveOrders : ByteArray := prog_1_method_25_code
def yX8_weaveOrders : MethodName := ⟨RX8, "weaveOrders", "(I)V"⟩
abbrev cX8_spentByOrder : ByteArray := prog_1_method_26_code
def yX8_spentByOrder : MethodName := ⟨RX8, "spentByOrder", "(II)I"⟩
abbrev cX8_best : ByteArray := prog_1_method_27_code
def yX8_best : MethodName := ⟨RX8, "best", "(II)I"⟩
abbrev cX8_boatOfBest : ByteArray := prog_1_method_28_code
def yX8_boatOfBest : MethodName := ⟨RX8, "boatOfBest", "(I)I"⟩
abbrev cX8_ruled : ByteArray := prog_1_method_29_code
def yX8_ruled : MethodName := ⟨RX8, "ruled", "(III)I"⟩
abbrev cX8_isRule : ByteArray := prog_1_method_30_code
def yX8_isRule : MethodName := ⟨RX8, "isRule", "(I)Z"⟩
abbrev cX8_runInThought : ByteArray := prog_1_method_31_code
def yX8_runInThought : MethodName := ⟨RX8, "runInThought", "(II)V"⟩
abbrev cX8_run : ByteArray := prog_1_method_32_code
def yX8_run : MethodName := ⟨RX8, "run", "(II)I"⟩
abbrev cX8_moveOnFirst : ByteArray := prog_1_method_33_code
def yX8_moveOnFirst : MethodName := ⟨RX8, "moveOnFirst", "(LLockStaircase$Line;I)V"⟩
abbrev cX8_keeper : ByteArray := prog_1_method_34_code
def yX8_keeper : MethodName := ⟨RX8, "keeper", "(I)I"⟩
abbrev cX8_day : ByteArray := prog_1_method_35_code
def yX8_day : MethodName := ⟨RX8, "day", "(II)I"⟩
abbrev cX8_isTraffic : ByteArray := prog_1_method_36_code
def yX8_isTraffic : MethodName := ⟨RX8, "isTraffic", "(I)Z"⟩
abbrev cX8_dry : ByteArray := prog_1_method_37_code
def yX8_dry : MethodName := ⟨RX8, "dry", "(III)I"⟩
abbrev cX8_pond : ByteArray := prog_1_method_38_code
def yX8_pond : MethodName := ⟨RX8, "pond", "(III)I"⟩
abbrev cX8_summitInThought : ByteArray := prog_1_method_39_code
def yX8_summitInThought : MethodName := ⟨RX8, "summitInThought", "(III)I"⟩
abbrev cX8_water : ByteArray := prog_1_method_40_code
def yX8_water : MethodName := ⟨RX8, "water", "()I"⟩
abbrev cX8_levels : ByteArray := prog_1_method_41_code
def yX8_levels : MethodName := ⟨RX8, "levels", "(I)I"⟩
abbrev cX8_tally : ByteArray := prog_1_method_42_code
def yX8_tally : MethodName := ⟨RX8, "tally", "(II)I"⟩
abbrev cX8_pays : ByteArray := prog_1_method_43_code
def yX8_pays : MethodName := ⟨RX8, "pays", "(JJ)I"⟩
abbrev cX8_account : ByteArray := prog_1_method_44_code
def yX8_account : MethodName := ⟨RX8, "account", "()J"⟩
abbrev cX8_image : ByteArray := prog_1_method_45_code
def yX8_image : MethodName := ⟨RX8, "image", "()I"⟩
abbrev cX8_undo : ByteArray := prog_1_method_46_code
def yX8_undo : MethodName := ⟨RX8, "undo", "()I"⟩
abbrev cX8_count : ByteArray := prog_1_method_47_code
def yX8_count : MethodName := ⟨RX8, "count", "(I)I"⟩
def RX9 : String := "LockStaircaseModel"
def TX9 : u_T := fun k => match k with
  | 0 => ("LockStaircaseModel", "now", "[I", true)
  | 1 => ("LockStaircaseModel", "old", "[I", true)
  | 2 => ("LockStaircaseModel", "ahead", "[I", true)
  | 3 => ("LockStaircaseModel", "imaged", "Z", false)
  | 4 => ("LockStaircaseModel", "account", "J", false)
  | 5 => ("LockStaircaseModel", "oldAccount", "J", false)
  | 6 => ("LockStaircaseModel", "spent", "I", false)
  | 7 => ("LockStaircaseModel", "step", "I", false)
  | 8 => ("LockStaircaseModel", "at", "I", false)
  | 9 => ("LockStaircaseModel", "side", "I", false)
  | 10 => ("LockStaircaseModel", "wasBarred", "Z", false)
  | 11 => ("LockStaircaseModel", "cause", "[I", true)
  | 12 => ("LockStaircaseModel", "taped", "I", false)
  | 13 => ("LockStaircaseModel", "tape", "[I", true)
  | 14 => ("LockStaircaseModel", "place", "I", false)
  | 15 => ("LockStaircaseModel", "fault", "I", false)
  | 16 => ("LockStaircaseModel", "read", "[I", true)
  | 17 => ("LockStaircaseModel", "told", "I", false)
  | 18 => ("LockStaircaseModel", "below", "I", false)
  | 19 => ("LockStaircaseModel", "above", "I", false)
  | 20 => ("LockStaircaseModel", "ones", "[I", true)
  | 21 => ("LockStaircaseModel", "others", "[I", true)
  | 22 => ("LockStaircaseModel", "done", "I", false)
  | 23 => ("LockStaircaseModel", "sum", "I", false)
  | 24 => ("LockStaircaseModel", "ended", "I", false)
  | 25 => ("LockStaircaseModel", "good", "I", false)
  | 26 => ("LockStaircaseModel", "best", "I", false)
  | 27 => ("LockStaircaseModel", "row", "[I", true)
  | _ => ("LockStaircaseModel", "bestRow", "[I", true)
def tyX9 : Nat → FieldType := fun k => match k with
  | 0 => .array .int
  | 1 => .array .int
  | 2 => .array .int
  | 3 => .boolean
  | 4 => .long
  | 5 => .long
  | 6 => .int
  | 7 => .int
  | 8 => .int
  | 9 => .int
  | 10 => .boolean
  | 11 => .array .int
  | 12 => .int
  | 13 => .array .int
  | 14 => .int
  | 15 => .int
  | 16 => .array .int
  | 17 => .int
  | 18 => .int
  | 19 => .int
  | 20 => .array .int
  | 21 => .array .int
  | 22 => .int
  | 23 => .int
  | 24 => .int
  | 25 => .int
  | 26 => .int
  | 27 => .array .int
  | _ => .array .int
abbrev wsX90 : List Cond := u_ws RX9 TX9 29
theorem nmX9 : ∀ a, a < 29 → ∀ b, b < 29 → a ≠ b → (TX9 a).2.1 ≠ (TX9 b).2.1 := by decide +kernel
theorem tyX9_ok : ∀ k, k < 29 → parseFieldDescriptor (TX9 k).2.2.1 = some (tyX9 k) := by decide +kernel
abbrev cX9_init : ByteArray := prog_11_method_1_code
def yX9_init : MethodName := ⟨RX9, "<init>", "()V"⟩
abbrev cX9_within : ByteArray := prog_11_method_2_code
def yX9_within : MethodName := ⟨RX9, "within", "(III)Z"⟩
abbrev cX9_begins : ByteArray := prog_11_method_3_code
def yX9_begins : MethodName := ⟨RX9, "begins", "(I)V"⟩
abbrev cX9_becomes : ByteArray := prog_11_method_4_code
def yX9_becomes : MethodName := ⟨RX9, "becomes", "(II)I"⟩
abbrev cX9_isLock : ByteArray := prog_11_method_5_code
def yX9_isLock : MethodName := ⟨RX9, "isLock", "(I)Z"⟩
abbrev cX9_isReach : ByteArray := prog_11_method_6_code
def yX9_isReach : MethodName := ⟨RX9, "isReach", "(I)Z"⟩
abbrev cX9_isBoat : ByteArray := prog_11_method_7_code
def yX9_isBoat : MethodName := ⟨RX9, "isBoat", "(I)Z"⟩
abbrev cX9_pours : ByteArray := prog_11_method_8_code
def yX9_pours : MethodName := ⟨RX9, "pours", "([I[I)V"⟩
abbrev cX9_locks : ByteArray := prog_11_method_9_code
def yX9_locks : MethodName := ⟨RX9, "locks", "(I)I"⟩
abbrev cX9_lock : ByteArray := prog_11_method_10_code
def yX9_lock : MethodName := ⟨RX9, "lock", "(III)I"⟩
abbrev cX9_share : ByteArray := prog_11_method_11_code
def yX9_share : MethodName := ⟨RX9, "share", "(I)I"⟩
abbrev cX9_ofLock : ByteArray := prog_11_method_12_code
def yX9_ofLock : MethodName := ⟨RX9, "ofLock", "(II)I"⟩
abbrev cX9_reach : ByteArray := prog_11_method_13_code
def yX9_reach : MethodName := ⟨RX9, "reach", "(III)I"⟩
abbrev cX9_ofReach : ByteArray := prog_11_method_14_code
def yX9_ofReach : MethodName := ⟨RX9, "ofReach", "(II)I"⟩
abbrev cX9_feeds : ByteArray := prog_11_method_15_code
def yX9_feeds : MethodName := ⟨RX9, "feeds", "(I)I"⟩
abbrev cX9_feed : ByteArray := prog_11_method_16_code
def yX9_feed : MethodName := ⟨RX9, "feed", "(I)I"⟩
abbrev cX9_isFrom : ByteArray := prog_11_method_17_code
def yX9_isFrom : MethodName := ⟨RX9, "isFrom", "(II)Z"⟩
abbrev cX9_wrong : ByteArray := prog_11_method_18_code
def yX9_wrong : MethodName := ⟨RX9, "wrong", "()V"⟩
abbrev cX9_name : ByteArray := prog_11_method_19_code
def yX9_name : MethodName := ⟨RX9, "name", "()I"⟩
abbrev cX9_figure : ByteArray := prog_11_method_20_code
def yX9_figure : MethodName := ⟨RX9, "figure", "(I)I"⟩
abbrev cX9_readsBoat : ByteArray := prog_11_method_21_code
def yX9_readsBoat : MethodName := ⟨RX9, "readsBoat", "()V"⟩
abbrev cX9_where : ByteArray := prog_11_method_22_code
def yX9_where : MethodName := ⟨RX9, "where", "(I)I"⟩
abbrev cX9_isThere : ByteArray := prog_11_method_23_code
def yX9_isThere : MethodName := ⟨RX9, "isThere", "(II)Z"⟩
abbrev cX9_shifts : ByteArray := prog_11_method_24_code
def yX9_shifts : MethodName := ⟨RX9, "shifts", "(II)V"⟩
abbrev cX9_comes : ByteArray := prog_11_method_25_code
def yX9_comes : MethodName := ⟨RX9, "comes", "(I)Z"⟩
abbrev cX9_boats : ByteArray := prog_11_method_26_code
def yX9_boats : MethodName := ⟨RX9, "boats", "()I"⟩
abbrev cX9_letter : ByteArray := prog_11_method_27_code
def yX9_letter : MethodName := ⟨RX9, "letter", "(II)I"⟩
abbrev cX9_boat : ByteArray := prog_11_method_28_code
def yX9_boat : MethodName := ⟨RX9, "boat", "(II)I"⟩
abbrev cX9_find : ByteArray := prog_11_method_29_code
def yX9_find : MethodName := ⟨RX9, "find", "()I"⟩
abbrev cX9_leaves : ByteArray := prog_11_method_30_code
def yX9_leaves : MethodName := ⟨RX9, "leaves", "(I)I"⟩
abbrev cX9_about : ByteArray := prog_11_method_31_code
def yX9_about : MethodName := ⟨RX9, "about", "(I)I"⟩
abbrev cX9_flows : ByteArray := prog_11_method_32_code
def yX9_flows : MethodName := ⟨RX9, "flows", "(IIII)Z"⟩
abbrev cX9_fills : ByteArray := prog_11_method_33_code
def yX9_fills : MethodName := ⟨RX9, "fills", "(I)Z"⟩
abbrev cX9_empties : ByteArray := prog_11_method_34_code
def yX9_empties : MethodName := ⟨RX9, "empties", "(I)Z"⟩
abbrev cX9_goes : ByteArray := prog_11_method_35_code
def yX9_goes : MethodName := ⟨RX9, "goes", "(IZI)Z"⟩
abbrev cX9_goesTruly : ByteArray := prog_11_method_36_code
def yX9_goesTruly : MethodName := ⟨RX9, "goesTruly", "(IZI)Z"⟩
abbrev cX9_isUp : ByteArray := prog_11_method_37_code
def yX9_isUp : MethodName := ⟨RX9, "isUp", "(I)Z"⟩
abbrev cX9_lockOf : ByteArray := prog_11_method_38_code
def yX9_lockOf : MethodName := ⟨RX9, "lockOf", "(I)I"⟩
abbrev cX9_boatGoes : ByteArray := prog_11_method_39_code
def yX9_boatGoes : MethodName := ⟨RX9, "boatGoes", "(IZ)Z"⟩
abbrev cX9_pass : ByteArray := prog_11_method_40_code
def yX9_pass : MethodName := ⟨RX9, "pass", "(I)I"⟩
abbrev cX9_through : ByteArray := prog_11_method_41_code
def yX9_through : MethodName := ⟨RX9, "through", "(I)I"⟩
abbrev cX9_costs : ByteArray := prog_11_method_42_code
def yX9_costs : MethodName := ⟨RX9, "costs", "(I)I"⟩
abbrev cX9_why : ByteArray := prog_11_method_43_code
def yX9_why : MethodName := ⟨RX9, "why", "(I)I"⟩
abbrev cX9_queues : ByteArray := prog_11_method_44_code
def yX9_queues : MethodName := ⟨RX9, "queues", "(II[I)I"⟩
abbrev cX9_queuesOf : ByteArray := prog_11_method_45_code
def yX9_queuesOf : MethodName := ⟨RX9, "queuesOf", "(I)V"⟩
abbrev cX9_queue : ByteArray := prog_11_method_46_code
def yX9_queue : MethodName := ⟨RX9, "queue", "(II)I"⟩
abbrev cX9_weaves : ByteArray := prog_11_method_47_code
def yX9_weaves : MethodName := ⟨RX9, "weaves", "(IIII)V"⟩
abbrev cX9_weavesAll : ByteArray := prog_11_method_48_code
def yX9_weavesAll : MethodName := ⟨RX9, "weavesAll", "(I)V"⟩
abbrev cX9_orders : ByteArray := prog_11_method_49_code
def yX9_orders : MethodName := ⟨RX9, "orders", "(I)I"⟩
abbrev cX9_best : ByteArray := prog_11_method_50_code
def yX9_best : MethodName := ⟨RX9, "best", "(II)I"⟩
abbrev cX9_isFromBelow : ByteArray := prog_11_method_51_code
def yX9_isFromBelow : MethodName := ⟨RX9, "isFromBelow", "(IIII)Z"⟩
abbrev cX9_runs : ByteArray := prog_11_method_52_code
def yX9_runs : MethodName := ⟨RX9, "runs", "(IIZ)V"⟩
abbrev cX9_ruled : ByteArray := prog_11_method_53_code
def yX9_ruled : MethodName := ⟨RX9, "ruled", "(III)I"⟩
abbrev cX9_run : ByteArray := prog_11_method_54_code
def yX9_run : MethodName := ⟨RX9, "run", "(II)I"⟩
abbrev cX9_keeper : ByteArray := prog_11_method_55_code
def yX9_keeper : MethodName := ⟨RX9, "keeper", "(I)I"⟩
abbrev cX9_crosses : ByteArray := prog_11_method_56_code
def yX9_crosses : MethodName := ⟨RX9, "crosses", "(ZZ)Z"⟩
abbrev cX9_dayGoes : ByteArray := prog_11_method_57_code
def yX9_dayGoes : MethodName := ⟨RX9, "dayGoes", "(IIZ)V"⟩
abbrev cX9_isTraffic : ByteArray := prog_11_method_58_code
def yX9_isTraffic : MethodName := ⟨RX9, "isTraffic", "(II)Z"⟩
abbrev cX9_day : ByteArray := prog_11_method_59_code
def yX9_day : MethodName := ⟨RX9, "day", "(II)I"⟩
abbrev cX9_dry : ByteArray := prog_11_method_60_code
def yX9_dry : MethodName := ⟨RX9, "dry", "(III)I"⟩
abbrev cX9_summit : ByteArray := prog_11_method_61_code
def yX9_summit : MethodName := ⟨RX9, "summit", "(III)I"⟩
abbrev cX9_pond : ByteArray := prog_11_method_62_code
def yX9_pond : MethodName := ⟨RX9, "pond", "(III)I"⟩
abbrev cX9_water : ByteArray := prog_11_method_63_code
def yX9_water : MethodName := ⟨RX9, "water", "()I"⟩
abbrev cX9_levels : ByteArray := prog_11_method_64_code
def yX9_levels : MethodName := ⟨RX9, "levels", "(I)I"⟩
abbrev cX9_tally : ByteArray := prog_11_method_65_code
def yX9_tally : MethodName := ⟨RX9, "tally", "(II)I"⟩
abbrev cX9_isBeyond : ByteArray := prog_11_method_66_code
def yX9_isBeyond : MethodName := ⟨RX9, "isBeyond", "(JJ)Z"⟩
abbrev cX9_pays : ByteArray := prog_11_method_67_code
def yX9_pays : MethodName := ⟨RX9, "pays", "(JJ)I"⟩
abbrev cX9_account : ByteArray := prog_11_method_68_code
def yX9_account : MethodName := ⟨RX9, "account", "()J"⟩
abbrev cX9_image : ByteArray := prog_11_method_69_code
def yX9_image : MethodName := ⟨RX9, "image", "()I"⟩
abbrev cX9_undo : ByteArray := prog_11_method_70_code
def yX9_undo : MethodName := ⟨RX9, "undo", "()I"⟩
abbrev cX9_count : ByteArray := prog_11_method_71_code
def yX9_count : MethodName := ⟨RX9, "count", "(I)I"⟩
def RJ6 : String := "java/lang/Integer"
def TJ6 : u_T := fun k => match k with
  | _ => ("", "", "", false)
def tyJ6 : Nat → FieldType := fun k => match k with
  | _ => .int
abbrev wsJ60 : List Cond := u_ws RJ6 TJ6 0
theorem nmJ6 : ∀ a, a < 0 → ∀ b, b < 0 → a ≠ b → (TJ6 a).2.1 ≠ (TJ6 b).2.1 := by decide +kernel
theorem tyJ6_ok : ∀ k, k < 0 → parseFieldDescriptor (TJ6 k).2.2.1 = some (tyJ6 k) := by decide +kernel
abbrev cJ6_bitCount_0f7a4 : ByteArray := prog_12_method_49_code
def yJ6_bitCount_0f7a4 : MethodName := ⟨RJ6, "bitCount", "(I)I"⟩
def RJ9 : String := "java/lang/Math"
def TJ9 : u_T := fun k => match k with
  | _ => ("", "", "", false)
def tyJ9 : Nat → FieldType := fun k => match k with
  | _ => .int
abbrev wsJ90 : List Cond := u_ws RJ9 TJ9 0
theorem nmJ9 : ∀ a, a < 0 → ∀ b, b < 0 → a ≠ b → (TJ9 a).2.1 ≠ (TJ9 b).2.1 := by decide +kernel
theorem tyJ9_ok : ∀ k, k < 0 → parseFieldDescriptor (TJ9 k).2.2.1 = some (tyJ9 k) := by decide +kernel
abbrev cJ9_max_7cf53 : ByteArray := prog_13_method_65_code
def yJ9_max_7cf53 : MethodName := ⟨RJ9, "max", "(II)I"⟩
abbrev cJ9_min_7cf53 : ByteArray := prog_13_method_69_code
def yJ9_min_7cf53 : MethodName := ⟨RJ9, "min", "(II)I"⟩
def RJ10 : String := "java/lang/System"
def TJ10 : u_T := fun k => match k with
  | _ => ("", "", "", false)
def tyJ10 : Nat → FieldType := fun k => match k with
  | _ => .int
abbrev wsJ100 : List Cond := u_ws RJ10 TJ10 0
theorem nmJ10 : ∀ a, a < 0 → ∀ b, b < 0 → a ≠ b → (TJ10 a).2.1 ≠ (TJ10 b).2.1 := by decide +kernel
theorem tyJ10_ok : ∀ k, k < 0 → parseFieldDescriptor (TJ10 k).2.2.1 = some (tyJ10 k) := by decide +kernel
def RL : String := "LockStaircaseLaw"
abbrev cL_law : ByteArray := code
def yL_law : MethodName := ⟨RL, "law", "([I)Z"⟩
abbrev vwCl : List vw_C := [(RX0, TX0, 13), (RX1, TX1, 5), (RX2, TX2, 6), (RX3, TX3, 2), (RX4, TX4, 3), (RX5, TX5, 1), (RX6, TX6, 8), (RX7, TX7, 5), (RX8, TX8, 14), (RX9, TX9, 29)]
end
section
/-! the tables' words that a method may use, by their places (printed by wip/whole/gen_words.py) -/
def lk_AW : List Cond := lw_tbl.filter goodWord
theorem lk_in {w : Cond} (h : w ∈ tables_1) (hg : goodWord w = true) : w ∈ lk_AW := List.mem_filter.mpr ⟨List.mem_append_right _ h, hg⟩
theorem lk_in1 {w : Cond} (h : w ∈ tables_1_1) (hg : goodWord w = true) : w ∈ lk_AW := lk_in (List.mem_append_left _ h) hg
theorem lk_in2 {w : Cond} (h : w ∈ tables_1_2) (hg : goodWord w = true) : w ∈ lk_AW := lk_in (List.mem_append_right _ (List.mem_append_left _ h)) hg
theorem lk_in3 {w : Cond} (h : w ∈ tables_1_3) (hg : goodWord w = true) : w ∈ lk_AW := lk_in (List.mem_append_right _ (List.mem_append_right _ (List.mem_append_left _ h))) hg
theorem lk_in4 {w : Cond} (h : w ∈ tables_1_4) (hg : goodWord w = true) : w ∈ lk_AW := lk_in (List.mem_append_right _ (List.mem_append_right _ (List.mem_append_right _ (List.mem_append_left _ h)))) hg
theorem lk_in5 {w : Cond} (h : w ∈ tables_1_5) (hg : goodWord w = true) : w ∈ lk_AW := lk_in (List.mem_append_right _ (List.mem_append_right _ (List.mem_append_right _ (List.mem_append_right _ h)))) hg
theorem lk_inS {w : Cond} (h : w ∈ k2_sels lw_privs) (hg : goodWord w = true) : w ∈ lk_AW := List.mem_filter.mpr ⟨List.mem_append_left _ h, hg⟩
abbrev lk_M : Type := MethodName × ByteArray × Nat × Option FieldType
/-- what a callee's tables say of it, whoever calls it; n: how many parameters -/
def lk_cv (M : lk_M) (n : Nat) : Prop := Cond.instanceMethod M.1 ∈ lk_AW ∧ Cond.selects M.1.cls M.1 M.1 ∈ lk_AW ∧ Cond.initialized M.1.cls ∈ lk_AW ∧ Cond.code M.1 M.2.1 M.2.2.1 M.2.2.2 ∈ lk_AW ∧ (M.1.cls ≠ "java/lang/invoke/MethodHandle" ∧ M.1.cls ≠ "java/lang/invoke/VarHandle" ∧ (parseMethodDescriptor M.1.desc).map (fun d => d.parameters.length) = some n) ∧ M.2.2.1 ≤ 21
def lk_cs (M : lk_M) (n : Nat) : Prop := Cond.static M.1 ∈ lk_AW ∧ Cond.initialized M.1.cls ∈ lk_AW ∧ Cond.code M.1 M.2.1 M.2.2.1 M.2.2.2 ∈ lk_AW ∧ (M.1.cls ≠ "java/lang/invoke/MethodHandle" ∧ M.1.cls ≠ "java/lang/invoke/VarHandle" ∧ (parseMethodDescriptor M.1.desc).map (fun d => d.parameters.length) = some n) ∧ M.2.2.1 ≤ 21
theorem iwX0 : ∀ w ∈ wsX00, w ∈ lk_AW := by decide +kernel
theorem iwX1 : ∀ w ∈ wsX10, w ∈ lk_AW := by decide +kernel
theorem iwX2 : ∀ w ∈ wsX20, w ∈ lk_AW := by decide +kernel
theorem iwX3 : ∀ w ∈ wsX30, w ∈ lk_AW := by decide +kernel
theorem iwX4 : ∀ w ∈ wsX40, w ∈ lk_AW := by decide +kernel
theorem iwX5 : ∀ w ∈ wsX50, w ∈ lk_AW := by decide +kernel
theorem iwX6 : ∀ w ∈ wsX60, w ∈ lk_AW := by decide +kernel
theorem iwX7 : ∀ w ∈ wsX70, w ∈ lk_AW := by decide +kernel
theorem iwX8 : ∀ w ∈ wsX80, w ∈ lk_AW := by decide +kernel
theorem iwX9 : ∀ w ∈ wsX90, w ∈ lk_AW := by decide +kernel
abbrev mX0_reset : lk_M := (yX0_reset, cX0_reset, 3, none)
theorem vX0_reset : lk_cv mX0_reset 1 := ⟨lk_in2 (List.mem_of_getElem? (i := 12) rfl) rfl, lk_in2 (List.mem_of_getElem? (i := 13) rfl) rfl, lk_in1 (List.mem_of_getElem? (i := 2) rfl) rfl, lk_in2 (List.mem_of_getElem? (i := 14) rfl) rfl, ⟨by decide +kernel, by decide +kernel, by decide +kernel⟩, by decide⟩
abbrev mX5_copyFrom : lk_M := (yX5_copyFrom, cX5_copyFrom, 2, none)
theorem vX5_copyFrom : lk_cv mX5_copyFrom 1 := ⟨lk_in3 (List.mem_of_getElem? (i := 50) rfl) rfl, lk_in3 (List.mem_of_getElem? (i := 51) rfl) rfl, lk_in1 (List.mem_of_getElem? (i := 3) rfl) rfl, lk_in3 (List.mem_of_getElem? (i := 52) rfl) rfl, ⟨by decide +kernel, by decide +kernel, by decide +kernel⟩, by decide⟩
abbrev mX0_copyFrom : lk_M := (yX0_copyFrom, cX0_copyFrom, 3, none)
theorem vX0_copyFrom : lk_cv mX0_copyFrom 1 := ⟨lk_in3 (List.mem_of_getElem? (i := 45) rfl) rfl, lk_in3 (List.mem_of_getElem? (i := 46) rfl) rfl, lk_in1 (List.mem_of_getElem? (i := 2) rfl) rfl, lk_in3 (List.mem_of_getElem? (i := 47) rfl) rfl, ⟨by decide +kernel, by decide +kernel, by decide +kernel⟩, by decide⟩
abbrev mX0_hasLock : lk_M := (yX0_hasLock, cX0_hasLock, 2, (some .boolean))
theorem vX0_hasLock : lk_cv mX0_hasLock 1 := ⟨lk_in2 (List.mem_of_getElem? (i := 67) rfl) rfl, lk_in2 (List.mem_of_getElem? (i := 68) rfl) rfl, lk_in1 (List.mem_of_getElem? (i := 2) rfl) rfl, lk_in2 (List.mem_of_getElem? (i := 69) rfl) rfl, ⟨by decide +kernel, by decide +kernel, by decide +kernel⟩, by decide⟩
abbrev mX0_copyLockFrom : lk_M := (yX0_copyLockFrom, cX0_copyLockFrom, 3, none)
theorem vX0_copyLockFrom : lk_cv mX0_copyLockFrom 2 := ⟨lk_in3 (List.mem_of_getElem? (i := 116) rfl) rfl, lk_in3 (List.mem_of_getElem? (i := 117) rfl) rfl, lk_in1 (List.mem_of_getElem? (i := 2) rfl) rfl, lk_in3 (List.mem_of_getElem? (i := 118) rfl) rfl, ⟨by decide +kernel, by decide +kernel, by decide +kernel⟩, by decide⟩
abbrev mX0_hasReach : lk_M := (yX0_hasReach, cX0_hasReach, 2, (some .boolean))
theorem vX0_hasReach : lk_cv mX0_hasReach 1 := ⟨lk_in2 (List.mem_of_getElem? (i := 94) rfl) rfl, lk_in2 (List.mem_of_getElem? (i := 95) rfl) rfl, lk_in1 (List.mem_of_getElem? (i := 2) rfl) rfl, lk_in2 (List.mem_of_getElem? (i := 96) rfl) rfl, ⟨by decide +kernel, by decide +kernel, by decide +kernel⟩, by decide⟩
abbrev mX0_isAtRest : lk_M := (yX0_isAtRest, cX0_isAtRest, 2, (some .boolean))
theorem vX0_isAtRest : lk_cv mX0_isAtRest 1 := ⟨lk_in2 (List.mem_of_getElem? (i := 74) rfl) rfl, lk_in2 (List.mem_of_getElem? (i := 75) rfl) rfl, lk_in1 (List.mem_of_getElem? (i := 2) rfl) rfl, lk_in2 (List.mem_of_getElem? (i := 76) rfl) rfl, ⟨by decide +kernel, by decide +kernel, by decide +kernel⟩, by decide⟩
abbrev mX0_share : lk_M := (yX0_share, cX0_share, 2, (some .int))
theorem vX0_share : lk_cv mX0_share 1 := ⟨lk_in2 (List.mem_of_getElem? (i := 82) rfl) rfl, lk_in2 (List.mem_of_getElem? (i := 83) rfl) rfl, lk_in1 (List.mem_of_getElem? (i := 2) rfl) rfl, lk_in2 (List.mem_of_getElem? (i := 84) rfl) rfl, ⟨by decide +kernel, by decide +kernel, by decide +kernel⟩, by decide⟩
abbrev mX0_lockNumber : lk_M := (yX0_lockNumber, cX0_lockNumber, 3, (some .int))
theorem vX0_lockNumber : lk_cv mX0_lockNumber 2 := ⟨lk_in2 (List.mem_of_getElem? (i := 78) rfl) rfl, lk_in2 (List.mem_of_getElem? (i := 79) rfl) rfl, lk_in1 (List.mem_of_getElem? (i := 2) rfl) rfl, lk_in2 (List.mem_of_getElem? (i := 80) rfl) rfl, ⟨by decide +kernel, by decide +kernel, by decide +kernel⟩, by decide⟩
abbrev mX0_reachNumber : lk_M := (yX0_reachNumber, cX0_reachNumber, 3, (some .int))
theorem vX0_reachNumber : lk_cv mX0_reachNumber 2 := ⟨lk_in2 (List.mem_of_getElem? (i := 101) rfl) rfl, lk_in2 (List.mem_of_getElem? (i := 102) rfl) rfl, lk_in1 (List.mem_of_getElem? (i := 2) rfl) rfl, lk_in2 (List.mem_of_getElem? (i := 103) rfl) rfl, ⟨by decide +kernel, by decide +kernel, by decide +kernel⟩, by decide⟩
abbrev mX0_setReach : lk_M := (yX0_setReach, cX0_setReach, 4, none)
theorem vX0_setReach : lk_cv mX0_setReach 3 := ⟨lk_in2 (List.mem_of_getElem? (i := 105) rfl) rfl, lk_in2 (List.mem_of_getElem? (i := 106) rfl) rfl, lk_in1 (List.mem_of_getElem? (i := 2) rfl) rfl, lk_in2 (List.mem_of_getElem? (i := 107) rfl) rfl, ⟨by decide +kernel, by decide +kernel, by decide +kernel⟩, by decide⟩
abbrev mX0_lockFrom : lk_M := (yX0_lockFrom, cX0_lockFrom, 2, (some .int))
theorem vX0_lockFrom : lk_cs mX0_lockFrom 2 := ⟨lk_in2 (List.mem_of_getElem? (i := 236) rfl) rfl, lk_in1 (List.mem_of_getElem? (i := 2) rfl) rfl, lk_in2 (List.mem_of_getElem? (i := 237) rfl) rfl, ⟨by decide +kernel, by decide +kernel, by decide +kernel⟩, by decide⟩
abbrev mX0_isBarred : lk_M := (yX0_isBarred, cX0_isBarred, 6, (some .boolean))
theorem vX0_isBarred : lk_cv mX0_isBarred 4 := ⟨lk_in3 (List.mem_of_getElem? (i := 11) rfl) rfl, lk_inS (List.mem_of_getElem? (i := 9) rfl) rfl, lk_in1 (List.mem_of_getElem? (i := 2) rfl) rfl, lk_in3 (List.mem_of_getElem? (i := 12) rfl) rfl, ⟨by decide +kernel, by decide +kernel, by decide +kernel⟩, by decide⟩
abbrev mX0_empties : lk_M := (yX0_empties, cX0_empties, 4, (some .boolean))
theorem vX0_empties : lk_cv mX0_empties 1 := ⟨lk_in3 (List.mem_of_getElem? (i := 7) rfl) rfl, lk_inS (List.mem_of_getElem? (i := 8) rfl) rfl, lk_in1 (List.mem_of_getElem? (i := 2) rfl) rfl, lk_in3 (List.mem_of_getElem? (i := 8) rfl) rfl, ⟨by decide +kernel, by decide +kernel, by decide +kernel⟩, by decide⟩
abbrev mX0_fills : lk_M := (yX0_fills, cX0_fills, 3, (some .boolean))
theorem vX0_fills : lk_cv mX0_fills 1 := ⟨lk_in3 (List.mem_of_getElem? (i := 15) rfl) rfl, lk_inS (List.mem_of_getElem? (i := 10) rfl) rfl, lk_in1 (List.mem_of_getElem? (i := 2) rfl) rfl, lk_in3 (List.mem_of_getElem? (i := 16) rfl) rfl, ⟨by decide +kernel, by decide +kernel, by decide +kernel⟩, by decide⟩
abbrev mX0_swaps : lk_M := (yX0_swaps, cX0_swaps, 3, (some .boolean))
theorem vX0_swaps : lk_cv mX0_swaps 2 := ⟨lk_in3 (List.mem_of_getElem? (i := 19) rfl) rfl, lk_inS (List.mem_of_getElem? (i := 11) rfl) rfl, lk_in1 (List.mem_of_getElem? (i := 2) rfl) rfl, lk_in3 (List.mem_of_getElem? (i := 20) rfl) rfl, ⟨by decide +kernel, by decide +kernel, by decide +kernel⟩, by decide⟩
abbrev mX5_add : lk_M := (yX5_add, cX5_add, 2, none)
theorem vX5_add : lk_cv mX5_add 1 := ⟨lk_in3 (List.mem_of_getElem? (i := 22) rfl) rfl, lk_in3 (List.mem_of_getElem? (i := 23) rfl) rfl, lk_in1 (List.mem_of_getElem? (i := 3) rfl) rfl, lk_in3 (List.mem_of_getElem? (i := 24) rfl) rfl, ⟨by decide +kernel, by decide +kernel, by decide +kernel⟩, by decide⟩
abbrev mX0_passage : lk_M := (yX0_passage, cX0_passage, 10, (some .int))
theorem vX0_passage : lk_cv mX0_passage 3 := ⟨lk_in3 (List.mem_of_getElem? (i := 0) rfl) rfl, lk_in3 (List.mem_of_getElem? (i := 1) rfl) rfl, lk_in1 (List.mem_of_getElem? (i := 2) rfl) rfl, lk_in3 (List.mem_of_getElem? (i := 2) rfl) rfl, ⟨by decide +kernel, by decide +kernel, by decide +kernel⟩, by decide⟩
abbrev mX0_travel : lk_M := (yX0_travel, cX0_travel, 6, (some .int))
theorem vX0_travel : lk_cv mX0_travel 3 := ⟨lk_in3 (List.mem_of_getElem? (i := 35) rfl) rfl, lk_in3 (List.mem_of_getElem? (i := 36) rfl) rfl, lk_in1 (List.mem_of_getElem? (i := 2) rfl) rfl, lk_in3 (List.mem_of_getElem? (i := 37) rfl) rfl, ⟨by decide +kernel, by decide +kernel, by decide +kernel⟩, by decide⟩
abbrev mX0_loseAndGain : lk_M := (yX0_loseAndGain, cX0_loseAndGain, 2, none)
theorem vX0_loseAndGain : lk_cv mX0_loseAndGain 0 := ⟨lk_in3 (List.mem_of_getElem? (i := 201) rfl) rfl, lk_inS (List.mem_of_getElem? (i := 20) rfl) rfl, lk_in1 (List.mem_of_getElem? (i := 2) rfl) rfl, lk_in3 (List.mem_of_getElem? (i := 202) rfl) rfl, ⟨by decide +kernel, by decide +kernel, by decide +kernel⟩, by decide⟩
abbrev mX0_wholeDay : lk_M := (yX0_wholeDay, cX0_wholeDay, 7, (some .int))
theorem vX0_wholeDay : lk_cv mX0_wholeDay 2 := ⟨lk_in3 (List.mem_of_getElem? (i := 196) rfl) rfl, lk_in3 (List.mem_of_getElem? (i := 197) rfl) rfl, lk_in1 (List.mem_of_getElem? (i := 2) rfl) rfl, lk_in3 (List.mem_of_getElem? (i := 198) rfl) rfl, ⟨by decide +kernel, by decide +kernel, by decide +kernel⟩, by decide⟩
abbrev mX0_summitWater : lk_M := (yX0_summitWater, cX0_summitWater, 1, (some .int))
theorem vX0_summitWater : lk_cv mX0_summitWater 0 := ⟨lk_in3 (List.mem_of_getElem? (i := 55) rfl) rfl, lk_in3 (List.mem_of_getElem? (i := 56) rfl) rfl, lk_in1 (List.mem_of_getElem? (i := 2) rfl) rfl, lk_in3 (List.mem_of_getElem? (i := 57) rfl) rfl, ⟨by decide +kernel, by decide +kernel, by decide +kernel⟩, by decide⟩
abbrev mX0_allWater : lk_M := (yX0_allWater, cX0_allWater, 3, (some .int))
theorem vX0_allWater : lk_cv mX0_allWater 0 := ⟨lk_in3 (List.mem_of_getElem? (i := 225) rfl) rfl, lk_in3 (List.mem_of_getElem? (i := 226) rfl) rfl, lk_in1 (List.mem_of_getElem? (i := 2) rfl) rfl, lk_in3 (List.mem_of_getElem? (i := 227) rfl) rfl, ⟨by decide +kernel, by decide +kernel, by decide +kernel⟩, by decide⟩
abbrev mX0_leastLevelOver : lk_M := (yX0_leastLevelOver, cX0_leastLevelOver, 4, (some .int))
theorem vX0_leastLevelOver : lk_cv mX0_leastLevelOver 1 := ⟨lk_in3 (List.mem_of_getElem? (i := 233) rfl) rfl, lk_in3 (List.mem_of_getElem? (i := 234) rfl) rfl, lk_in1 (List.mem_of_getElem? (i := 2) rfl) rfl, lk_in3 (List.mem_of_getElem? (i := 235) rfl) rfl, ⟨by decide +kernel, by decide +kernel, by decide +kernel⟩, by decide⟩
abbrev mX0_fullLocks : lk_M := (yX0_fullLocks, cX0_fullLocks, 3, (some .int))
theorem vX0_fullLocks : lk_cv mX0_fullLocks 0 := ⟨lk_in4 (List.mem_of_getElem? (i := 36) rfl) rfl, lk_in4 (List.mem_of_getElem? (i := 37) rfl) rfl, lk_in1 (List.mem_of_getElem? (i := 2) rfl) rfl, lk_in4 (List.mem_of_getElem? (i := 38) rfl) rfl, ⟨by decide +kernel, by decide +kernel, by decide +kernel⟩, by decide⟩
abbrev mX1_number : lk_M := (yX1_number, cX1_number, 2, (some .int))
theorem vX1_number : lk_cv mX1_number 1 := ⟨lk_in3 (List.mem_of_getElem? (i := 63) rfl) rfl, lk_in3 (List.mem_of_getElem? (i := 64) rfl) rfl, lk_in1 (List.mem_of_getElem? (i := 4) rfl) rfl, lk_in3 (List.mem_of_getElem? (i := 65) rfl) rfl, ⟨by decide +kernel, by decide +kernel, by decide +kernel⟩, by decide⟩
abbrev mX2_copyFrom : lk_M := (yX2_copyFrom, cX2_copyFrom, 3, none)
theorem vX2_copyFrom : lk_cv mX2_copyFrom 1 := ⟨lk_in2 (List.mem_of_getElem? (i := 137) rfl) rfl, lk_in2 (List.mem_of_getElem? (i := 138) rfl) rfl, lk_in1 (List.mem_of_getElem? (i := 5) rfl) rfl, lk_in2 (List.mem_of_getElem? (i := 139) rfl) rfl, ⟨by decide +kernel, by decide +kernel, by decide +kernel⟩, by decide⟩
abbrev mX2_has : lk_M := (yX2_has, cX2_has, 2, (some .boolean))
theorem vX2_has : lk_cv mX2_has 1 := ⟨lk_in2 (List.mem_of_getElem? (i := 192) rfl) rfl, lk_in2 (List.mem_of_getElem? (i := 193) rfl) rfl, lk_in1 (List.mem_of_getElem? (i := 5) rfl) rfl, lk_in2 (List.mem_of_getElem? (i := 194) rfl) rfl, ⟨by decide +kernel, by decide +kernel, by decide +kernel⟩, by decide⟩
abbrev mX2_numberOf : lk_M := (yX2_numberOf, cX2_numberOf, 3, (some .int))
theorem vX2_numberOf : lk_cv mX2_numberOf 1 := ⟨lk_in2 (List.mem_of_getElem? (i := 215) rfl) rfl, lk_in2 (List.mem_of_getElem? (i := 216) rfl) rfl, lk_in1 (List.mem_of_getElem? (i := 5) rfl) rfl, lk_in2 (List.mem_of_getElem? (i := 217) rfl) rfl, ⟨by decide +kernel, by decide +kernel, by decide +kernel⟩, by decide⟩
abbrev mX2_copyRow : lk_M := (yX2_copyRow, cX2_copyRow, 3, none)
theorem vX2_copyRow : lk_cv mX2_copyRow 2 := ⟨lk_in2 (List.mem_of_getElem? (i := 173) rfl) rfl, lk_inS (List.mem_of_getElem? (i := 5) rfl) rfl, lk_in1 (List.mem_of_getElem? (i := 5) rfl) rfl, lk_in2 (List.mem_of_getElem? (i := 174) rfl) rfl, ⟨by decide +kernel, by decide +kernel, by decide +kernel⟩, by decide⟩
abbrev mX2_placeFor : lk_M := (yX2_placeFor, cX2_placeFor, 4, (some .int))
theorem vX2_placeFor : lk_cv mX2_placeFor 1 := ⟨lk_in2 (List.mem_of_getElem? (i := 169) rfl) rfl, lk_inS (List.mem_of_getElem? (i := 4) rfl) rfl, lk_in1 (List.mem_of_getElem? (i := 5) rfl) rfl, lk_in2 (List.mem_of_getElem? (i := 170) rfl) rfl, ⟨by decide +kernel, by decide +kernel, by decide +kernel⟩, by decide⟩
abbrev mX2_put : lk_M := (yX2_put, cX2_put, 3, none)
theorem vX2_put : lk_cv mX2_put 1 := ⟨lk_in2 (List.mem_of_getElem? (i := 164) rfl) rfl, lk_in2 (List.mem_of_getElem? (i := 165) rfl) rfl, lk_in1 (List.mem_of_getElem? (i := 5) rfl) rfl, lk_in2 (List.mem_of_getElem? (i := 166) rfl) rfl, ⟨by decide +kernel, by decide +kernel, by decide +kernel⟩, by decide⟩
abbrev mX2_remove : lk_M := (yX2_remove, cX2_remove, 3, none)
theorem vX2_remove : lk_cv mX2_remove 1 := ⟨lk_in2 (List.mem_of_getElem? (i := 223) rfl) rfl, lk_in2 (List.mem_of_getElem? (i := 224) rfl) rfl, lk_in1 (List.mem_of_getElem? (i := 5) rfl) rfl, lk_in2 (List.mem_of_getElem? (i := 225) rfl) rfl, ⟨by decide +kernel, by decide +kernel, by decide +kernel⟩, by decide⟩
abbrev mX2_moveOn : lk_M := (yX2_moveOn, cX2_moveOn, 3, none)
theorem vX2_moveOn : lk_cv mX2_moveOn 2 := ⟨lk_in3 (List.mem_of_getElem? (i := 27) rfl) rfl, lk_in3 (List.mem_of_getElem? (i := 28) rfl) rfl, lk_in1 (List.mem_of_getElem? (i := 5) rfl) rfl, lk_in3 (List.mem_of_getElem? (i := 29) rfl) rfl, ⟨by decide +kernel, by decide +kernel, by decide +kernel⟩, by decide⟩
abbrev mX2_sizeOf : lk_M := (yX2_sizeOf, cX2_sizeOf, 2, (some .int))
theorem vX2_sizeOf : lk_cv mX2_sizeOf 1 := ⟨lk_in3 (List.mem_of_getElem? (i := 128) rfl) rfl, lk_in3 (List.mem_of_getElem? (i := 129) rfl) rfl, lk_in1 (List.mem_of_getElem? (i := 5) rfl) rfl, lk_in3 (List.mem_of_getElem? (i := 130) rfl) rfl, ⟨by decide +kernel, by decide +kernel, by decide +kernel⟩, by decide⟩
abbrev mX2_rankOf : lk_M := (yX2_rankOf, cX2_rankOf, 2, (some .int))
theorem vX2_rankOf : lk_cv mX2_rankOf 1 := ⟨lk_in3 (List.mem_of_getElem? (i := 83) rfl) rfl, lk_in3 (List.mem_of_getElem? (i := 84) rfl) rfl, lk_in1 (List.mem_of_getElem? (i := 5) rfl) rfl, lk_in3 (List.mem_of_getElem? (i := 85) rfl) rfl, ⟨by decide +kernel, by decide +kernel, by decide +kernel⟩, by decide⟩
abbrev mX2_countIn : lk_M := (yX2_countIn, cX2_countIn, 4, (some .int))
theorem vX2_countIn : lk_cv mX2_countIn 1 := ⟨lk_in2 (List.mem_of_getElem? (i := 113) rfl) rfl, lk_in2 (List.mem_of_getElem? (i := 114) rfl) rfl, lk_in1 (List.mem_of_getElem? (i := 5) rfl) rfl, lk_in2 (List.mem_of_getElem? (i := 115) rfl) rfl, ⟨by decide +kernel, by decide +kernel, by decide +kernel⟩, by decide⟩
abbrev mX2_letter : lk_M := (yX2_letter, cX2_letter, 5, (some .int))
theorem vX2_letter : lk_cv mX2_letter 2 := ⟨lk_in2 (List.mem_of_getElem? (i := 204) rfl) rfl, lk_in2 (List.mem_of_getElem? (i := 205) rfl) rfl, lk_in1 (List.mem_of_getElem? (i := 5) rfl) rfl, lk_in2 (List.mem_of_getElem? (i := 206) rfl) rfl, ⟨by decide +kernel, by decide +kernel, by decide +kernel⟩, by decide⟩
abbrev mX2_letterCount : lk_M := (yX2_letterCount, cX2_letterCount, 3, (some .int))
theorem vX2_letterCount : lk_cv mX2_letterCount 1 := ⟨lk_in2 (List.mem_of_getElem? (i := 201) rfl) rfl, lk_inS (List.mem_of_getElem? (i := 7) rfl) rfl, lk_in1 (List.mem_of_getElem? (i := 5) rfl) rfl, lk_in2 (List.mem_of_getElem? (i := 202) rfl) rfl, ⟨by decide +kernel, by decide +kernel, by decide +kernel⟩, by decide⟩
abbrev mX2_number : lk_M := (yX2_number, cX2_number, 3, (some .int))
theorem vX2_number : lk_cv mX2_number 2 := ⟨lk_in2 (List.mem_of_getElem? (i := 196) rfl) rfl, lk_in2 (List.mem_of_getElem? (i := 197) rfl) rfl, lk_in1 (List.mem_of_getElem? (i := 5) rfl) rfl, lk_in2 (List.mem_of_getElem? (i := 198) rfl) rfl, ⟨by decide +kernel, by decide +kernel, by decide +kernel⟩, by decide⟩
abbrev mX3_boatAt : lk_M := (yX3_boatAt, cX3_boatAt, 2, (some .int))
theorem vX3_boatAt : lk_cv mX3_boatAt 1 := ⟨lk_in3 (List.mem_of_getElem? (i := 87) rfl) rfl, lk_in3 (List.mem_of_getElem? (i := 88) rfl) rfl, lk_in1 (List.mem_of_getElem? (i := 7) rfl) rfl, lk_in3 (List.mem_of_getElem? (i := 89) rfl) rfl, ⟨by decide +kernel, by decide +kernel, by decide +kernel⟩, by decide⟩
abbrev mX3_join : lk_M := (yX3_join, cX3_join, 4, none)
theorem vX3_join : lk_cv mX3_join 2 := ⟨lk_in3 (List.mem_of_getElem? (i := 80) rfl) rfl, lk_inS (List.mem_of_getElem? (i := 13) rfl) rfl, lk_in1 (List.mem_of_getElem? (i := 7) rfl) rfl, lk_in3 (List.mem_of_getElem? (i := 81) rfl) rfl, ⟨by decide +kernel, by decide +kernel, by decide +kernel⟩, by decide⟩
abbrev mX3_gather : lk_M := (yX3_gather, cX3_gather, 5, none)
theorem vX3_gather : lk_cv mX3_gather 3 := ⟨lk_in3 (List.mem_of_getElem? (i := 75) rfl) rfl, lk_in3 (List.mem_of_getElem? (i := 76) rfl) rfl, lk_in1 (List.mem_of_getElem? (i := 7) rfl) rfl, lk_in3 (List.mem_of_getElem? (i := 77) rfl) rfl, ⟨by decide +kernel, by decide +kernel, by decide +kernel⟩, by decide⟩
abbrev mX4_done : lk_M := (yX4_done, cX4_done, 1, (some .int))
theorem vX4_done : lk_cv mX4_done 0 := ⟨lk_in3 (List.mem_of_getElem? (i := 173) rfl) rfl, lk_in3 (List.mem_of_getElem? (i := 174) rfl) rfl, lk_in1 (List.mem_of_getElem? (i := 8) rfl) rfl, lk_in3 (List.mem_of_getElem? (i := 175) rfl) rfl, ⟨by decide +kernel, by decide +kernel, by decide +kernel⟩, by decide⟩
abbrev mX4_isAhead : lk_M := (yX4_isAhead, cX4_isAhead, 5, (some .boolean))
theorem vX4_isAhead : lk_cs mX4_isAhead 3 := ⟨lk_in3 (List.mem_of_getElem? (i := 166) rfl) rfl, lk_in1 (List.mem_of_getElem? (i := 8) rfl) rfl, lk_in3 (List.mem_of_getElem? (i := 167) rfl) rfl, ⟨by decide +kernel, by decide +kernel, by decide +kernel⟩, by decide⟩
abbrev mX4_isFromBelowNext : lk_M := (yX4_isFromBelowNext, cX4_isFromBelowNext, 6, (some .boolean))
theorem vX4_isFromBelowNext : lk_cv mX4_isFromBelowNext 5 := ⟨lk_in3 (List.mem_of_getElem? (i := 162) rfl) rfl, lk_inS (List.mem_of_getElem? (i := 18) rfl) rfl, lk_in1 (List.mem_of_getElem? (i := 8) rfl) rfl, lk_in3 (List.mem_of_getElem? (i := 163) rfl) rfl, ⟨by decide +kernel, by decide +kernel, by decide +kernel⟩, by decide⟩
abbrev mX4_go : lk_M := (yX4_go, cX4_go, 12, none)
theorem vX4_go : lk_cv mX4_go 6 := ⟨lk_in3 (List.mem_of_getElem? (i := 156) rfl) rfl, lk_in3 (List.mem_of_getElem? (i := 157) rfl) rfl, lk_in1 (List.mem_of_getElem? (i := 8) rfl) rfl, lk_in3 (List.mem_of_getElem? (i := 158) rfl) rfl, ⟨by decide +kernel, by decide +kernel, by decide +kernel⟩, by decide⟩
abbrev mX5_unlike : lk_M := (yX5_unlike, cX5_unlike, 3, (some .int))
theorem vX5_unlike : lk_cv mX5_unlike 0 := ⟨lk_in4 (List.mem_of_getElem? (i := 5) rfl) rfl, lk_in4 (List.mem_of_getElem? (i := 6) rfl) rfl, lk_in1 (List.mem_of_getElem? (i := 3) rfl) rfl, lk_in4 (List.mem_of_getElem? (i := 7) rfl) rfl, ⟨by decide +kernel, by decide +kernel, by decide +kernel⟩, by decide⟩
abbrev mX5_upTo : lk_M := (yX5_upTo, cX5_upTo, 4, (some .int))
theorem vX5_upTo : lk_cv mX5_upTo 1 := ⟨lk_in4 (List.mem_of_getElem? (i := 1) rfl) rfl, lk_in4 (List.mem_of_getElem? (i := 2) rfl) rfl, lk_in1 (List.mem_of_getElem? (i := 3) rfl) rfl, lk_in4 (List.mem_of_getElem? (i := 3) rfl) rfl, ⟨by decide +kernel, by decide +kernel, by decide +kernel⟩, by decide⟩
abbrev mX5_row : lk_M := (yX5_row, cX5_row, 5, (some .int))
theorem vX5_row : lk_cv mX5_row 2 := ⟨lk_in4 (List.mem_of_getElem? (i := 9) rfl) rfl, lk_in4 (List.mem_of_getElem? (i := 10) rfl) rfl, lk_in1 (List.mem_of_getElem? (i := 3) rfl) rfl, lk_in4 (List.mem_of_getElem? (i := 11) rfl) rfl, ⟨by decide +kernel, by decide +kernel, by decide +kernel⟩, by decide⟩
abbrev mX6_append : lk_M := (yX6_append, cX6_append, 2, (some .boolean))
theorem vX6_append : lk_cv mX6_append 1 := ⟨lk_in2 (List.mem_of_getElem? (i := 125) rfl) rfl, lk_in2 (List.mem_of_getElem? (i := 126) rfl) rfl, lk_in1 (List.mem_of_getElem? (i := 6) rfl) rfl, lk_in2 (List.mem_of_getElem? (i := 127) rfl) rfl, ⟨by decide +kernel, by decide +kernel, by decide +kernel⟩, by decide⟩
abbrev mX6_current : lk_M := (yX6_current, cX6_current, 1, (some .int))
theorem vX6_current : lk_cv mX6_current 0 := ⟨lk_in2 (List.mem_of_getElem? (i := 153) rfl) rfl, lk_inS (List.mem_of_getElem? (i := 1) rfl) rfl, lk_in1 (List.mem_of_getElem? (i := 6) rfl) rfl, lk_in2 (List.mem_of_getElem? (i := 154) rfl) rfl, ⟨by decide +kernel, by decide +kernel, by decide +kernel⟩, by decide⟩
abbrev mX6_isAtEnd : lk_M := (yX6_isAtEnd, cX6_isAtEnd, 1, (some .boolean))
theorem vX6_isAtEnd : lk_cv mX6_isAtEnd 0 := ⟨lk_in2 (List.mem_of_getElem? (i := 176) rfl) rfl, lk_in2 (List.mem_of_getElem? (i := 177) rfl) rfl, lk_in1 (List.mem_of_getElem? (i := 6) rfl) rfl, lk_in2 (List.mem_of_getElem? (i := 178) rfl) rfl, ⟨by decide +kernel, by decide +kernel, by decide +kernel⟩, by decide⟩
abbrev mX6_readName : lk_M := (yX6_readName, cX6_readName, 5, (some .int))
theorem vX6_readName : lk_cv mX6_readName 0 := ⟨lk_in2 (List.mem_of_getElem? (i := 148) rfl) rfl, lk_in2 (List.mem_of_getElem? (i := 149) rfl) rfl, lk_in1 (List.mem_of_getElem? (i := 6) rfl) rfl, lk_in2 (List.mem_of_getElem? (i := 150) rfl) rfl, ⟨by decide +kernel, by decide +kernel, by decide +kernel⟩, by decide⟩
abbrev mX6_readWay : lk_M := (yX6_readWay, cX6_readWay, 2, (some .boolean))
theorem vX6_readWay : lk_cv mX6_readWay 0 := ⟨lk_in2 (List.mem_of_getElem? (i := 157) rfl) rfl, lk_inS (List.mem_of_getElem? (i := 2) rfl) rfl, lk_in1 (List.mem_of_getElem? (i := 6) rfl) rfl, lk_in2 (List.mem_of_getElem? (i := 158) rfl) rfl, ⟨by decide +kernel, by decide +kernel, by decide +kernel⟩, by decide⟩
abbrev mX6_readFigure : lk_M := (yX6_readFigure, cX6_readFigure, 3, (some .int))
theorem vX6_readFigure : lk_cv mX6_readFigure 1 := ⟨lk_in2 (List.mem_of_getElem? (i := 161) rfl) rfl, lk_inS (List.mem_of_getElem? (i := 3) rfl) rfl, lk_in1 (List.mem_of_getElem? (i := 6) rfl) rfl, lk_in2 (List.mem_of_getElem? (i := 162) rfl) rfl, ⟨by decide +kernel, by decide +kernel, by decide +kernel⟩, by decide⟩
abbrev mX6_readBoat : lk_M := (yX6_readBoat, cX6_readBoat, 2, (some .boolean))
theorem vX6_readBoat : lk_cv mX6_readBoat 1 := ⟨lk_in2 (List.mem_of_getElem? (i := 144) rfl) rfl, lk_in2 (List.mem_of_getElem? (i := 145) rfl) rfl, lk_in1 (List.mem_of_getElem? (i := 6) rfl) rfl, lk_in2 (List.mem_of_getElem? (i := 146) rfl) rfl, ⟨by decide +kernel, by decide +kernel, by decide +kernel⟩, by decide⟩
abbrev mX6_readComma : lk_M := (yX6_readComma, cX6_readComma, 1, (some .boolean))
theorem vX6_readComma : lk_cv mX6_readComma 0 := ⟨lk_in2 (List.mem_of_getElem? (i := 184) rfl) rfl, lk_in2 (List.mem_of_getElem? (i := 185) rfl) rfl, lk_in1 (List.mem_of_getElem? (i := 6) rfl) rfl, lk_in2 (List.mem_of_getElem? (i := 186) rfl) rfl, ⟨by decide +kernel, by decide +kernel, by decide +kernel⟩, by decide⟩
abbrev mX7_begin : lk_M := (yX7_begin, cX7_begin, 3, none)
theorem vX7_begin : lk_cv mX7_begin 2 := ⟨lk_in3 (List.mem_of_getElem? (i := 99) rfl) rfl, lk_in3 (List.mem_of_getElem? (i := 100) rfl) rfl, lk_in1 (List.mem_of_getElem? (i := 9) rfl) rfl, lk_in3 (List.mem_of_getElem? (i := 101) rfl) rfl, ⟨by decide +kernel, by decide +kernel, by decide +kernel⟩, by decide⟩
abbrev mJ6_bitCount_0f7a4 : lk_M := (yJ6_bitCount_0f7a4, cJ6_bitCount_0f7a4, 1, (some .int))
theorem vJ6_bitCount_0f7a4 : lk_cs mJ6_bitCount_0f7a4 1 := ⟨lk_in3 (List.mem_of_getElem? (i := 110) rfl) rfl, lk_in1 (List.mem_of_getElem? (i := 13) rfl) rfl, lk_in3 (List.mem_of_getElem? (i := 111) rfl) rfl, ⟨by decide +kernel, by decide +kernel, by decide +kernel⟩, by decide⟩
abbrev mX7_isOrder : lk_M := (yX7_isOrder, cX7_isOrder, 2, (some .boolean))
theorem vX7_isOrder : lk_cv mX7_isOrder 1 := ⟨lk_in3 (List.mem_of_getElem? (i := 106) rfl) rfl, lk_in3 (List.mem_of_getElem? (i := 107) rfl) rfl, lk_in1 (List.mem_of_getElem? (i := 9) rfl) rfl, lk_in3 (List.mem_of_getElem? (i := 108) rfl) rfl, ⟨by decide +kernel, by decide +kernel, by decide +kernel⟩, by decide⟩
abbrev mX7_isFromBelow : lk_M := (yX7_isFromBelow, cX7_isFromBelow, 3, (some .boolean))
theorem vX7_isFromBelow : lk_cv mX7_isFromBelow 2 := ⟨lk_in3 (List.mem_of_getElem? (i := 124) rfl) rfl, lk_in3 (List.mem_of_getElem? (i := 125) rfl) rfl, lk_in1 (List.mem_of_getElem? (i := 9) rfl) rfl, lk_in3 (List.mem_of_getElem? (i := 126) rfl) rfl, ⟨by decide +kernel, by decide +kernel, by decide +kernel⟩, by decide⟩
abbrev mX7_weigh : lk_M := (yX7_weigh, cX7_weigh, 3, none)
theorem vX7_weigh : lk_cv mX7_weigh 2 := ⟨lk_in3 (List.mem_of_getElem? (i := 132) rfl) rfl, lk_in3 (List.mem_of_getElem? (i := 133) rfl) rfl, lk_in1 (List.mem_of_getElem? (i := 9) rfl) rfl, lk_in3 (List.mem_of_getElem? (i := 134) rfl) rfl, ⟨by decide +kernel, by decide +kernel, by decide +kernel⟩, by decide⟩
abbrev mX8_locks : lk_M := (yX8_locks, cX8_locks, 3, (some .int))
theorem vX8_locks : lk_cv mX8_locks 1 := ⟨lk_in2 (List.mem_of_getElem? (i := 59) rfl) rfl, lk_in2 (List.mem_of_getElem? (i := 60) rfl) rfl, lk_in1 (List.mem_of_getElem? (i := 1) rfl) rfl, lk_in2 (List.mem_of_getElem? (i := 61) rfl) rfl, ⟨by decide +kernel, by decide +kernel, by decide +kernel⟩, by decide⟩
abbrev mX8_isLockSetting : lk_M := (yX8_isLockSetting, cX8_isLockSetting, 2, (some .boolean))
theorem vX8_isLockSetting : lk_cs mX8_isLockSetting 2 := ⟨lk_in2 (List.mem_of_getElem? (i := 71) rfl) rfl, lk_in1 (List.mem_of_getElem? (i := 1) rfl) rfl, lk_in2 (List.mem_of_getElem? (i := 72) rfl) rfl, ⟨by decide +kernel, by decide +kernel, by decide +kernel⟩, by decide⟩
abbrev mX8_lock : lk_M := (yX8_lock, cX8_lock, 5, (some .int))
theorem vX8_lock : lk_cv mX8_lock 3 := ⟨lk_in2 (List.mem_of_getElem? (i := 63) rfl) rfl, lk_in2 (List.mem_of_getElem? (i := 64) rfl) rfl, lk_in1 (List.mem_of_getElem? (i := 1) rfl) rfl, lk_in2 (List.mem_of_getElem? (i := 65) rfl) rfl, ⟨by decide +kernel, by decide +kernel, by decide +kernel⟩, by decide⟩
abbrev mX8_ofLock : lk_M := (yX8_ofLock, cX8_ofLock, 3, (some .int))
theorem vX8_ofLock : lk_cv mX8_ofLock 2 := ⟨lk_in2 (List.mem_of_getElem? (i := 86) rfl) rfl, lk_in2 (List.mem_of_getElem? (i := 87) rfl) rfl, lk_in1 (List.mem_of_getElem? (i := 1) rfl) rfl, lk_in2 (List.mem_of_getElem? (i := 88) rfl) rfl, ⟨by decide +kernel, by decide +kernel, by decide +kernel⟩, by decide⟩
abbrev mX8_isReachSetting : lk_M := (yX8_isReachSetting, cX8_isReachSetting, 2, (some .boolean))
theorem vX8_isReachSetting : lk_cs mX8_isReachSetting 2 := ⟨lk_in2 (List.mem_of_getElem? (i := 98) rfl) rfl, lk_in1 (List.mem_of_getElem? (i := 1) rfl) rfl, lk_in2 (List.mem_of_getElem? (i := 99) rfl) rfl, ⟨by decide +kernel, by decide +kernel, by decide +kernel⟩, by decide⟩
abbrev mX8_reach : lk_M := (yX8_reach, cX8_reach, 8, (some .int))
theorem vX8_reach : lk_cv mX8_reach 3 := ⟨lk_in2 (List.mem_of_getElem? (i := 90) rfl) rfl, lk_in2 (List.mem_of_getElem? (i := 91) rfl) rfl, lk_in1 (List.mem_of_getElem? (i := 1) rfl) rfl, lk_in2 (List.mem_of_getElem? (i := 92) rfl) rfl, ⟨by decide +kernel, by decide +kernel, by decide +kernel⟩, by decide⟩
abbrev mX8_ofReach : lk_M := (yX8_ofReach, cX8_ofReach, 3, (some .int))
theorem vX8_ofReach : lk_cv mX8_ofReach 2 := ⟨lk_in2 (List.mem_of_getElem? (i := 109) rfl) rfl, lk_in2 (List.mem_of_getElem? (i := 110) rfl) rfl, lk_in1 (List.mem_of_getElem? (i := 1) rfl) rfl, lk_in2 (List.mem_of_getElem? (i := 111) rfl) rfl, ⟨by decide +kernel, by decide +kernel, by decide +kernel⟩, by decide⟩
abbrev mX8_feeds : lk_M := (yX8_feeds, cX8_feeds, 3, (some .int))
theorem vX8_feeds : lk_cv mX8_feeds 1 := ⟨lk_in2 (List.mem_of_getElem? (i := 117) rfl) rfl, lk_in2 (List.mem_of_getElem? (i := 118) rfl) rfl, lk_in1 (List.mem_of_getElem? (i := 1) rfl) rfl, lk_in2 (List.mem_of_getElem? (i := 119) rfl) rfl, ⟨by decide +kernel, by decide +kernel, by decide +kernel⟩, by decide⟩
abbrev mX8_feed : lk_M := (yX8_feed, cX8_feed, 2, (some .int))
theorem vX8_feed : lk_cv mX8_feed 1 := ⟨lk_in2 (List.mem_of_getElem? (i := 121) rfl) rfl, lk_in2 (List.mem_of_getElem? (i := 122) rfl) rfl, lk_in1 (List.mem_of_getElem? (i := 1) rfl) rfl, lk_in2 (List.mem_of_getElem? (i := 123) rfl) rfl, ⟨by decide +kernel, by decide +kernel, by decide +kernel⟩, by decide⟩
abbrev mX8_takeFleetInThought : lk_M := (yX8_takeFleetInThought, cX8_takeFleetInThought, 2, (some .int))
theorem vX8_takeFleetInThought : lk_cv mX8_takeFleetInThought 1 := ⟨lk_in2 (List.mem_of_getElem? (i := 181) rfl) rfl, lk_inS (List.mem_of_getElem? (i := 6) rfl) rfl, lk_in1 (List.mem_of_getElem? (i := 1) rfl) rfl, lk_in2 (List.mem_of_getElem? (i := 182) rfl) rfl, ⟨by decide +kernel, by decide +kernel, by decide +kernel⟩, by decide⟩
abbrev mX8_readBoats : lk_M := (yX8_readBoats, cX8_readBoats, 2, (some .int))
theorem vX8_readBoats : lk_cv mX8_readBoats 0 := ⟨lk_in2 (List.mem_of_getElem? (i := 134) rfl) rfl, lk_inS (List.mem_of_getElem? (i := 0) rfl) rfl, lk_in1 (List.mem_of_getElem? (i := 1) rfl) rfl, lk_in2 (List.mem_of_getElem? (i := 135) rfl) rfl, ⟨by decide +kernel, by decide +kernel, by decide +kernel⟩, by decide⟩
abbrev mX8_boats : lk_M := (yX8_boats, cX8_boats, 2, (some .int))
theorem vX8_boats : lk_cv mX8_boats 0 := ⟨lk_in2 (List.mem_of_getElem? (i := 129) rfl) rfl, lk_in2 (List.mem_of_getElem? (i := 130) rfl) rfl, lk_in1 (List.mem_of_getElem? (i := 1) rfl) rfl, lk_in2 (List.mem_of_getElem? (i := 131) rfl) rfl, ⟨by decide +kernel, by decide +kernel, by decide +kernel⟩, by decide⟩
abbrev mX8_boat : lk_M := (yX8_boat, cX8_boat, 3, (some .int))
theorem vX8_boat : lk_cv mX8_boat 2 := ⟨lk_in2 (List.mem_of_getElem? (i := 188) rfl) rfl, lk_in2 (List.mem_of_getElem? (i := 189) rfl) rfl, lk_in1 (List.mem_of_getElem? (i := 1) rfl) rfl, lk_in2 (List.mem_of_getElem? (i := 190) rfl) rfl, ⟨by decide +kernel, by decide +kernel, by decide +kernel⟩, by decide⟩
abbrev mX8_find : lk_M := (yX8_find, cX8_find, 3, (some .int))
theorem vX8_find : lk_cv mX8_find 0 := ⟨lk_in2 (List.mem_of_getElem? (i := 210) rfl) rfl, lk_in2 (List.mem_of_getElem? (i := 211) rfl) rfl, lk_in1 (List.mem_of_getElem? (i := 1) rfl) rfl, lk_in2 (List.mem_of_getElem? (i := 212) rfl) rfl, ⟨by decide +kernel, by decide +kernel, by decide +kernel⟩, by decide⟩
abbrev mX8_leaves : lk_M := (yX8_leaves, cX8_leaves, 2, (some .int))
theorem vX8_leaves : lk_cv mX8_leaves 1 := ⟨lk_in2 (List.mem_of_getElem? (i := 219) rfl) rfl, lk_in2 (List.mem_of_getElem? (i := 220) rfl) rfl, lk_in1 (List.mem_of_getElem? (i := 1) rfl) rfl, lk_in2 (List.mem_of_getElem? (i := 221) rfl) rfl, ⟨by decide +kernel, by decide +kernel, by decide +kernel⟩, by decide⟩
abbrev mX8_about : lk_M := (yX8_about, cX8_about, 2, (some .int))
theorem vX8_about : lk_cv mX8_about 1 := ⟨lk_in2 (List.mem_of_getElem? (i := 227) rfl) rfl, lk_in2 (List.mem_of_getElem? (i := 228) rfl) rfl, lk_in1 (List.mem_of_getElem? (i := 1) rfl) rfl, lk_in2 (List.mem_of_getElem? (i := 229) rfl) rfl, ⟨by decide +kernel, by decide +kernel, by decide +kernel⟩, by decide⟩
abbrev mX8_pass : lk_M := (yX8_pass, cX8_pass, 5, (some .int))
theorem vX8_pass : lk_cv mX8_pass 1 := ⟨lk_in2 (List.mem_of_getElem? (i := 231) rfl) rfl, lk_in2 (List.mem_of_getElem? (i := 232) rfl) rfl, lk_in1 (List.mem_of_getElem? (i := 1) rfl) rfl, lk_in2 (List.mem_of_getElem? (i := 233) rfl) rfl, ⟨by decide +kernel, by decide +kernel, by decide +kernel⟩, by decide⟩
abbrev mX8_through : lk_M := (yX8_through, cX8_through, 3, (some .int))
theorem vX8_through : lk_cv mX8_through 1 := ⟨lk_in3 (List.mem_of_getElem? (i := 31) rfl) rfl, lk_in3 (List.mem_of_getElem? (i := 32) rfl) rfl, lk_in1 (List.mem_of_getElem? (i := 1) rfl) rfl, lk_in3 (List.mem_of_getElem? (i := 33) rfl) rfl, ⟨by decide +kernel, by decide +kernel, by decide +kernel⟩, by decide⟩
abbrev mX8_costs : lk_M := (yX8_costs, cX8_costs, 2, (some .int))
theorem vX8_costs : lk_cv mX8_costs 1 := ⟨lk_in3 (List.mem_of_getElem? (i := 41) rfl) rfl, lk_in3 (List.mem_of_getElem? (i := 42) rfl) rfl, lk_in1 (List.mem_of_getElem? (i := 1) rfl) rfl, lk_in3 (List.mem_of_getElem? (i := 43) rfl) rfl, ⟨by decide +kernel, by decide +kernel, by decide +kernel⟩, by decide⟩
abbrev mX8_why : lk_M := (yX8_why, cX8_why, 2, (some .int))
theorem vX8_why : lk_cv mX8_why 1 := ⟨lk_in3 (List.mem_of_getElem? (i := 59) rfl) rfl, lk_in3 (List.mem_of_getElem? (i := 60) rfl) rfl, lk_in1 (List.mem_of_getElem? (i := 1) rfl) rfl, lk_in3 (List.mem_of_getElem? (i := 61) rfl) rfl, ⟨by decide +kernel, by decide +kernel, by decide +kernel⟩, by decide⟩
abbrev mX8_lineUp : lk_M := (yX8_lineUp, cX8_lineUp, 2, none)
theorem vX8_lineUp : lk_cv mX8_lineUp 1 := ⟨lk_in3 (List.mem_of_getElem? (i := 72) rfl) rfl, lk_inS (List.mem_of_getElem? (i := 12) rfl) rfl, lk_in1 (List.mem_of_getElem? (i := 1) rfl) rfl, lk_in3 (List.mem_of_getElem? (i := 73) rfl) rfl, ⟨by decide +kernel, by decide +kernel, by decide +kernel⟩, by decide⟩
abbrev mX8_queue : lk_M := (yX8_queue, cX8_queue, 3, (some .int))
theorem vX8_queue : lk_cv mX8_queue 2 := ⟨lk_in3 (List.mem_of_getElem? (i := 67) rfl) rfl, lk_in3 (List.mem_of_getElem? (i := 68) rfl) rfl, lk_in1 (List.mem_of_getElem? (i := 1) rfl) rfl, lk_in3 (List.mem_of_getElem? (i := 69) rfl) rfl, ⟨by decide +kernel, by decide +kernel, by decide +kernel⟩, by decide⟩
abbrev mX8_spentByOrder : lk_M := (yX8_spentByOrder, cX8_spentByOrder, 10, (some .int))
theorem vX8_spentByOrder : lk_cv mX8_spentByOrder 2 := ⟨lk_in3 (List.mem_of_getElem? (i := 121) rfl) rfl, lk_inS (List.mem_of_getElem? (i := 15) rfl) rfl, lk_in1 (List.mem_of_getElem? (i := 1) rfl) rfl, lk_in3 (List.mem_of_getElem? (i := 122) rfl) rfl, ⟨by decide +kernel, by decide +kernel, by decide +kernel⟩, by decide⟩
abbrev mX8_weaveOrders : lk_M := (yX8_weaveOrders, cX8_weaveOrders, 4, none)
theorem vX8_weaveOrders : lk_cv mX8_weaveOrders 1 := ⟨lk_in3 (List.mem_of_getElem? (i := 96) rfl) rfl, lk_inS (List.mem_of_getElem? (i := 14) rfl) rfl, lk_in1 (List.mem_of_getElem? (i := 1) rfl) rfl, lk_in3 (List.mem_of_getElem? (i := 97) rfl) rfl, ⟨by decide +kernel, by decide +kernel, by decide +kernel⟩, by decide⟩
abbrev mX8_orders : lk_M := (yX8_orders, cX8_orders, 2, (some .int))
theorem vX8_orders : lk_cv mX8_orders 1 := ⟨lk_in3 (List.mem_of_getElem? (i := 91) rfl) rfl, lk_in3 (List.mem_of_getElem? (i := 92) rfl) rfl, lk_in1 (List.mem_of_getElem? (i := 1) rfl) rfl, lk_in3 (List.mem_of_getElem? (i := 93) rfl) rfl, ⟨by decide +kernel, by decide +kernel, by decide +kernel⟩, by decide⟩
abbrev mX8_boatOfBest : lk_M := (yX8_boatOfBest, cX8_boatOfBest, 5, (some .int))
theorem vX8_boatOfBest : lk_cv mX8_boatOfBest 1 := ⟨lk_in3 (List.mem_of_getElem? (i := 142) rfl) rfl, lk_inS (List.mem_of_getElem? (i := 16) rfl) rfl, lk_in1 (List.mem_of_getElem? (i := 1) rfl) rfl, lk_in3 (List.mem_of_getElem? (i := 143) rfl) rfl, ⟨by decide +kernel, by decide +kernel, by decide +kernel⟩, by decide⟩
abbrev mX8_best : lk_M := (yX8_best, cX8_best, 3, (some .int))
theorem vX8_best : lk_cv mX8_best 2 := ⟨lk_in3 (List.mem_of_getElem? (i := 137) rfl) rfl, lk_in3 (List.mem_of_getElem? (i := 138) rfl) rfl, lk_in1 (List.mem_of_getElem? (i := 1) rfl) rfl, lk_in3 (List.mem_of_getElem? (i := 139) rfl) rfl, ⟨by decide +kernel, by decide +kernel, by decide +kernel⟩, by decide⟩
abbrev mX8_isRule : lk_M := (yX8_isRule, cX8_isRule, 1, (some .boolean))
theorem vX8_isRule : lk_cs mX8_isRule 1 := ⟨lk_in3 (List.mem_of_getElem? (i := 149) rfl) rfl, lk_in1 (List.mem_of_getElem? (i := 1) rfl) rfl, lk_in3 (List.mem_of_getElem? (i := 150) rfl) rfl, ⟨by decide +kernel, by decide +kernel, by decide +kernel⟩, by decide⟩
abbrev mX8_runInThought : lk_M := (yX8_runInThought, cX8_runInThought, 3, none)
theorem vX8_runInThought : lk_cv mX8_runInThought 2 := ⟨lk_in3 (List.mem_of_getElem? (i := 153) rfl) rfl, lk_inS (List.mem_of_getElem? (i := 17) rfl) rfl, lk_in1 (List.mem_of_getElem? (i := 1) rfl) rfl, lk_in3 (List.mem_of_getElem? (i := 154) rfl) rfl, ⟨by decide +kernel, by decide +kernel, by decide +kernel⟩, by decide⟩
abbrev mX8_ruled : lk_M := (yX8_ruled, cX8_ruled, 4, (some .int))
theorem vX8_ruled : lk_cv mX8_ruled 3 := ⟨lk_in3 (List.mem_of_getElem? (i := 145) rfl) rfl, lk_in3 (List.mem_of_getElem? (i := 146) rfl) rfl, lk_in1 (List.mem_of_getElem? (i := 1) rfl) rfl, lk_in3 (List.mem_of_getElem? (i := 147) rfl) rfl, ⟨by decide +kernel, by decide +kernel, by decide +kernel⟩, by decide⟩
abbrev mX8_moveOnFirst : lk_M := (yX8_moveOnFirst, cX8_moveOnFirst, 4, none)
theorem vX8_moveOnFirst : lk_cv mX8_moveOnFirst 2 := ⟨lk_in3 (List.mem_of_getElem? (i := 182) rfl) rfl, lk_inS (List.mem_of_getElem? (i := 19) rfl) rfl, lk_in1 (List.mem_of_getElem? (i := 1) rfl) rfl, lk_in3 (List.mem_of_getElem? (i := 183) rfl) rfl, ⟨by decide +kernel, by decide +kernel, by decide +kernel⟩, by decide⟩
abbrev mX8_run : lk_M := (yX8_run, cX8_run, 3, (some .int))
theorem vX8_run : lk_cv mX8_run 2 := ⟨lk_in3 (List.mem_of_getElem? (i := 177) rfl) rfl, lk_in3 (List.mem_of_getElem? (i := 178) rfl) rfl, lk_in1 (List.mem_of_getElem? (i := 1) rfl) rfl, lk_in3 (List.mem_of_getElem? (i := 179) rfl) rfl, ⟨by decide +kernel, by decide +kernel, by decide +kernel⟩, by decide⟩
abbrev mX8_keeper : lk_M := (yX8_keeper, cX8_keeper, 7, (some .int))
theorem vX8_keeper : lk_cv mX8_keeper 1 := ⟨lk_in3 (List.mem_of_getElem? (i := 185) rfl) rfl, lk_in3 (List.mem_of_getElem? (i := 186) rfl) rfl, lk_in1 (List.mem_of_getElem? (i := 1) rfl) rfl, lk_in3 (List.mem_of_getElem? (i := 187) rfl) rfl, ⟨by decide +kernel, by decide +kernel, by decide +kernel⟩, by decide⟩
abbrev mX8_isTraffic : lk_M := (yX8_isTraffic, cX8_isTraffic, 1, (some .boolean))
theorem vX8_isTraffic : lk_cs mX8_isTraffic 1 := ⟨lk_in3 (List.mem_of_getElem? (i := 193) rfl) rfl, lk_in1 (List.mem_of_getElem? (i := 1) rfl) rfl, lk_in3 (List.mem_of_getElem? (i := 194) rfl) rfl, ⟨by decide +kernel, by decide +kernel, by decide +kernel⟩, by decide⟩
abbrev mX8_day : lk_M := (yX8_day, cX8_day, 3, (some .int))
theorem vX8_day : lk_cv mX8_day 2 := ⟨lk_in3 (List.mem_of_getElem? (i := 189) rfl) rfl, lk_in3 (List.mem_of_getElem? (i := 190) rfl) rfl, lk_in1 (List.mem_of_getElem? (i := 1) rfl) rfl, lk_in3 (List.mem_of_getElem? (i := 191) rfl) rfl, ⟨by decide +kernel, by decide +kernel, by decide +kernel⟩, by decide⟩
abbrev mX8_dry : lk_M := (yX8_dry, cX8_dry, 5, (some .int))
theorem vX8_dry : lk_cv mX8_dry 3 := ⟨lk_in3 (List.mem_of_getElem? (i := 209) rfl) rfl, lk_in3 (List.mem_of_getElem? (i := 210) rfl) rfl, lk_in1 (List.mem_of_getElem? (i := 1) rfl) rfl, lk_in3 (List.mem_of_getElem? (i := 211) rfl) rfl, ⟨by decide +kernel, by decide +kernel, by decide +kernel⟩, by decide⟩
abbrev mX8_summitInThought : lk_M := (yX8_summitInThought, cX8_summitInThought, 5, (some .int))
theorem vX8_summitInThought : lk_cv mX8_summitInThought 3 := ⟨lk_in3 (List.mem_of_getElem? (i := 218) rfl) rfl, lk_inS (List.mem_of_getElem? (i := 21) rfl) rfl, lk_in1 (List.mem_of_getElem? (i := 1) rfl) rfl, lk_in3 (List.mem_of_getElem? (i := 219) rfl) rfl, ⟨by decide +kernel, by decide +kernel, by decide +kernel⟩, by decide⟩
abbrev mX8_pond : lk_M := (yX8_pond, cX8_pond, 8, (some .int))
theorem vX8_pond : lk_cv mX8_pond 3 := ⟨lk_in3 (List.mem_of_getElem? (i := 213) rfl) rfl, lk_in3 (List.mem_of_getElem? (i := 214) rfl) rfl, lk_in1 (List.mem_of_getElem? (i := 1) rfl) rfl, lk_in3 (List.mem_of_getElem? (i := 215) rfl) rfl, ⟨by decide +kernel, by decide +kernel, by decide +kernel⟩, by decide⟩
abbrev mX8_water : lk_M := (yX8_water, cX8_water, 1, (some .int))
theorem vX8_water : lk_cv mX8_water 0 := ⟨lk_in3 (List.mem_of_getElem? (i := 221) rfl) rfl, lk_in3 (List.mem_of_getElem? (i := 222) rfl) rfl, lk_in1 (List.mem_of_getElem? (i := 1) rfl) rfl, lk_in3 (List.mem_of_getElem? (i := 223) rfl) rfl, ⟨by decide +kernel, by decide +kernel, by decide +kernel⟩, by decide⟩
abbrev mX8_levels : lk_M := (yX8_levels, cX8_levels, 4, (some .int))
theorem vX8_levels : lk_cv mX8_levels 1 := ⟨lk_in3 (List.mem_of_getElem? (i := 229) rfl) rfl, lk_in3 (List.mem_of_getElem? (i := 230) rfl) rfl, lk_in1 (List.mem_of_getElem? (i := 1) rfl) rfl, lk_in3 (List.mem_of_getElem? (i := 231) rfl) rfl, ⟨by decide +kernel, by decide +kernel, by decide +kernel⟩, by decide⟩
abbrev mX8_tally : lk_M := (yX8_tally, cX8_tally, 3, (some .int))
theorem vX8_tally : lk_cv mX8_tally 2 := ⟨lk_in3 (List.mem_of_getElem? (i := 237) rfl) rfl, lk_in3 (List.mem_of_getElem? (i := 238) rfl) rfl, lk_in1 (List.mem_of_getElem? (i := 1) rfl) rfl, lk_in3 (List.mem_of_getElem? (i := 239) rfl) rfl, ⟨by decide +kernel, by decide +kernel, by decide +kernel⟩, by decide⟩
abbrev mX8_pays : lk_M := (yX8_pays, cX8_pays, 10, (some .int))
theorem vX8_pays : lk_cv mX8_pays 2 := ⟨lk_in4 (List.mem_of_getElem? (i := 14) rfl) rfl, lk_in4 (List.mem_of_getElem? (i := 15) rfl) rfl, lk_in1 (List.mem_of_getElem? (i := 1) rfl) rfl, lk_in4 (List.mem_of_getElem? (i := 16) rfl) rfl, ⟨by decide +kernel, by decide +kernel, by decide +kernel⟩, by decide⟩
abbrev mX8_account : lk_M := (yX8_account, cX8_account, 1, (some .long))
theorem vX8_account : lk_cv mX8_account 0 := ⟨lk_in4 (List.mem_of_getElem? (i := 20) rfl) rfl, lk_in4 (List.mem_of_getElem? (i := 21) rfl) rfl, lk_in1 (List.mem_of_getElem? (i := 1) rfl) rfl, lk_in4 (List.mem_of_getElem? (i := 22) rfl) rfl, ⟨by decide +kernel, by decide +kernel, by decide +kernel⟩, by decide⟩
abbrev mX8_image : lk_M := (yX8_image, cX8_image, 1, (some .int))
theorem vX8_image : lk_cv mX8_image 0 := ⟨lk_in4 (List.mem_of_getElem? (i := 24) rfl) rfl, lk_in4 (List.mem_of_getElem? (i := 25) rfl) rfl, lk_in1 (List.mem_of_getElem? (i := 1) rfl) rfl, lk_in4 (List.mem_of_getElem? (i := 26) rfl) rfl, ⟨by decide +kernel, by decide +kernel, by decide +kernel⟩, by decide⟩
abbrev mX8_undo : lk_M := (yX8_undo, cX8_undo, 1, (some .int))
theorem vX8_undo : lk_cv mX8_undo 0 := ⟨lk_in4 (List.mem_of_getElem? (i := 28) rfl) rfl, lk_in4 (List.mem_of_getElem? (i := 29) rfl) rfl, lk_in1 (List.mem_of_getElem? (i := 1) rfl) rfl, lk_in4 (List.mem_of_getElem? (i := 30) rfl) rfl, ⟨by decide +kernel, by decide +kernel, by decide +kernel⟩, by decide⟩
abbrev mX8_count : lk_M := (yX8_count, cX8_count, 2, (some .int))
theorem vX8_count : lk_cv mX8_count 1 := ⟨lk_in4 (List.mem_of_getElem? (i := 32) rfl) rfl, lk_in4 (List.mem_of_getElem? (i := 33) rfl) rfl, lk_in1 (List.mem_of_getElem? (i := 1) rfl) rfl, lk_in4 (List.mem_of_getElem? (i := 34) rfl) rfl, ⟨by decide +kernel, by decide +kernel, by decide +kernel⟩, by decide⟩
abbrev mX9_begins : lk_M := (yX9_begins, cX9_begins, 3, none)
theorem vX9_begins : lk_cv mX9_begins 1 := ⟨lk_in4 (List.mem_of_getElem? (i := 47) rfl) rfl, lk_inS (List.mem_of_getElem? (i := 22) rfl) rfl, lk_in1 (List.mem_of_getElem? (i := 10) rfl) rfl, lk_in4 (List.mem_of_getElem? (i := 48) rfl) rfl, ⟨by decide +kernel, by decide +kernel, by decide +kernel⟩, by decide⟩
abbrev mX9_within : lk_M := (yX9_within, cX9_within, 3, (some .boolean))
theorem vX9_within : lk_cs mX9_within 3 := ⟨lk_in4 (List.mem_of_getElem? (i := 142) rfl) rfl, lk_in1 (List.mem_of_getElem? (i := 10) rfl) rfl, lk_in4 (List.mem_of_getElem? (i := 143) rfl) rfl, ⟨by decide +kernel, by decide +kernel, by decide +kernel⟩, by decide⟩
abbrev mX9_becomes : lk_M := (yX9_becomes, cX9_becomes, 4, (some .int))
theorem vX9_becomes : lk_cv mX9_becomes 2 := ⟨lk_in4 (List.mem_of_getElem? (i := 154) rfl) rfl, lk_inS (List.mem_of_getElem? (i := 24) rfl) rfl, lk_in1 (List.mem_of_getElem? (i := 10) rfl) rfl, lk_in4 (List.mem_of_getElem? (i := 155) rfl) rfl, ⟨by decide +kernel, by decide +kernel, by decide +kernel⟩, by decide⟩
abbrev mX9_isLock : lk_M := (yX9_isLock, cX9_isLock, 2, (some .boolean))
theorem vX9_isLock : lk_cv mX9_isLock 1 := ⟨lk_in4 (List.mem_of_getElem? (i := 150) rfl) rfl, lk_inS (List.mem_of_getElem? (i := 23) rfl) rfl, lk_in1 (List.mem_of_getElem? (i := 10) rfl) rfl, lk_in4 (List.mem_of_getElem? (i := 151) rfl) rfl, ⟨by decide +kernel, by decide +kernel, by decide +kernel⟩, by decide⟩
abbrev mX9_isReach : lk_M := (yX9_isReach, cX9_isReach, 2, (some .boolean))
theorem vX9_isReach : lk_cv mX9_isReach 1 := ⟨lk_in4 (List.mem_of_getElem? (i := 170) rfl) rfl, lk_inS (List.mem_of_getElem? (i := 26) rfl) rfl, lk_in1 (List.mem_of_getElem? (i := 10) rfl) rfl, lk_in4 (List.mem_of_getElem? (i := 171) rfl) rfl, ⟨by decide +kernel, by decide +kernel, by decide +kernel⟩, by decide⟩
abbrev mX9_isBoat : lk_M := (yX9_isBoat, cX9_isBoat, 2, (some .boolean))
theorem vX9_isBoat : lk_cv mX9_isBoat 1 := ⟨lk_in4 (List.mem_of_getElem? (i := 233) rfl) rfl, lk_inS (List.mem_of_getElem? (i := 36) rfl) rfl, lk_in1 (List.mem_of_getElem? (i := 10) rfl) rfl, lk_in4 (List.mem_of_getElem? (i := 234) rfl) rfl, ⟨by decide +kernel, by decide +kernel, by decide +kernel⟩, by decide⟩
abbrev mX9_pours : lk_M := (yX9_pours, cX9_pours, 3, none)
theorem vX9_pours : lk_cs mX9_pours 2 := ⟨lk_in4 (List.mem_of_getElem? (i := 209) rfl) rfl, lk_in1 (List.mem_of_getElem? (i := 10) rfl) rfl, lk_in4 (List.mem_of_getElem? (i := 210) rfl) rfl, ⟨by decide +kernel, by decide +kernel, by decide +kernel⟩, by decide⟩
abbrev mX9_locks : lk_M := (yX9_locks, cX9_locks, 3, (some .int))
theorem vX9_locks : lk_cv mX9_locks 1 := ⟨lk_in4 (List.mem_of_getElem? (i := 138) rfl) rfl, lk_in4 (List.mem_of_getElem? (i := 139) rfl) rfl, lk_in1 (List.mem_of_getElem? (i := 10) rfl) rfl, lk_in4 (List.mem_of_getElem? (i := 140) rfl) rfl, ⟨by decide +kernel, by decide +kernel, by decide +kernel⟩, by decide⟩
abbrev mX9_lock : lk_M := (yX9_lock, cX9_lock, 4, (some .int))
theorem vX9_lock : lk_cv mX9_lock 3 := ⟨lk_in4 (List.mem_of_getElem? (i := 145) rfl) rfl, lk_in4 (List.mem_of_getElem? (i := 146) rfl) rfl, lk_in1 (List.mem_of_getElem? (i := 10) rfl) rfl, lk_in4 (List.mem_of_getElem? (i := 147) rfl) rfl, ⟨by decide +kernel, by decide +kernel, by decide +kernel⟩, by decide⟩
abbrev mX9_share : lk_M := (yX9_share, cX9_share, 2, (some .int))
theorem vX9_share : lk_cv mX9_share 1 := ⟨lk_in4 (List.mem_of_getElem? (i := 162) rfl) rfl, lk_inS (List.mem_of_getElem? (i := 25) rfl) rfl, lk_in1 (List.mem_of_getElem? (i := 10) rfl) rfl, lk_in4 (List.mem_of_getElem? (i := 163) rfl) rfl, ⟨by decide +kernel, by decide +kernel, by decide +kernel⟩, by decide⟩
abbrev mX9_ofLock : lk_M := (yX9_ofLock, cX9_ofLock, 3, (some .int))
theorem vX9_ofLock : lk_cv mX9_ofLock 2 := ⟨lk_in4 (List.mem_of_getElem? (i := 157) rfl) rfl, lk_in4 (List.mem_of_getElem? (i := 158) rfl) rfl, lk_in1 (List.mem_of_getElem? (i := 10) rfl) rfl, lk_in4 (List.mem_of_getElem? (i := 159) rfl) rfl, ⟨by decide +kernel, by decide +kernel, by decide +kernel⟩, by decide⟩
abbrev mX9_reach : lk_M := (yX9_reach, cX9_reach, 7, (some .int))
theorem vX9_reach : lk_cv mX9_reach 3 := ⟨lk_in4 (List.mem_of_getElem? (i := 165) rfl) rfl, lk_in4 (List.mem_of_getElem? (i := 166) rfl) rfl, lk_in1 (List.mem_of_getElem? (i := 10) rfl) rfl, lk_in4 (List.mem_of_getElem? (i := 167) rfl) rfl, ⟨by decide +kernel, by decide +kernel, by decide +kernel⟩, by decide⟩
abbrev mX9_ofReach : lk_M := (yX9_ofReach, cX9_ofReach, 5, (some .int))
theorem vX9_ofReach : lk_cv mX9_ofReach 2 := ⟨lk_in4 (List.mem_of_getElem? (i := 173) rfl) rfl, lk_in4 (List.mem_of_getElem? (i := 174) rfl) rfl, lk_in1 (List.mem_of_getElem? (i := 10) rfl) rfl, lk_in4 (List.mem_of_getElem? (i := 175) rfl) rfl, ⟨by decide +kernel, by decide +kernel, by decide +kernel⟩, by decide⟩
abbrev mX9_feeds : lk_M := (yX9_feeds, cX9_feeds, 2, (some .int))
theorem vX9_feeds : lk_cv mX9_feeds 1 := ⟨lk_in4 (List.mem_of_getElem? (i := 177) rfl) rfl, lk_in4 (List.mem_of_getElem? (i := 178) rfl) rfl, lk_in1 (List.mem_of_getElem? (i := 10) rfl) rfl, lk_in4 (List.mem_of_getElem? (i := 179) rfl) rfl, ⟨by decide +kernel, by decide +kernel, by decide +kernel⟩, by decide⟩
abbrev mX9_feed : lk_M := (yX9_feed, cX9_feed, 2, (some .int))
theorem vX9_feed : lk_cv mX9_feed 1 := ⟨lk_in4 (List.mem_of_getElem? (i := 181) rfl) rfl, lk_in4 (List.mem_of_getElem? (i := 182) rfl) rfl, lk_in1 (List.mem_of_getElem? (i := 10) rfl) rfl, lk_in4 (List.mem_of_getElem? (i := 183) rfl) rfl, ⟨by decide +kernel, by decide +kernel, by decide +kernel⟩, by decide⟩
abbrev mX9_isFrom : lk_M := (yX9_isFrom, cX9_isFrom, 3, (some .boolean))
theorem vX9_isFrom : lk_cv mX9_isFrom 2 := ⟨lk_in4 (List.mem_of_getElem? (i := 198) rfl) rfl, lk_inS (List.mem_of_getElem? (i := 29) rfl) rfl, lk_in1 (List.mem_of_getElem? (i := 10) rfl) rfl, lk_in4 (List.mem_of_getElem? (i := 199) rfl) rfl, ⟨by decide +kernel, by decide +kernel, by decide +kernel⟩, by decide⟩
abbrev mX9_wrong : lk_M := (yX9_wrong, cX9_wrong, 1, none)
theorem vX9_wrong : lk_cv mX9_wrong 0 := ⟨lk_in4 (List.mem_of_getElem? (i := 202) rfl) rfl, lk_inS (List.mem_of_getElem? (i := 30) rfl) rfl, lk_in1 (List.mem_of_getElem? (i := 10) rfl) rfl, lk_in4 (List.mem_of_getElem? (i := 203) rfl) rfl, ⟨by decide +kernel, by decide +kernel, by decide +kernel⟩, by decide⟩
abbrev mX9_name : lk_M := (yX9_name, cX9_name, 4, (some .int))
theorem vX9_name : lk_cv mX9_name 0 := ⟨lk_in4 (List.mem_of_getElem? (i := 194) rfl) rfl, lk_inS (List.mem_of_getElem? (i := 28) rfl) rfl, lk_in1 (List.mem_of_getElem? (i := 10) rfl) rfl, lk_in4 (List.mem_of_getElem? (i := 195) rfl) rfl, ⟨by decide +kernel, by decide +kernel, by decide +kernel⟩, by decide⟩
abbrev mX9_figure : lk_M := (yX9_figure, cX9_figure, 2, (some .int))
theorem vX9_figure : lk_cv mX9_figure 1 := ⟨lk_in4 (List.mem_of_getElem? (i := 206) rfl) rfl, lk_inS (List.mem_of_getElem? (i := 31) rfl) rfl, lk_in1 (List.mem_of_getElem? (i := 10) rfl) rfl, lk_in4 (List.mem_of_getElem? (i := 207) rfl) rfl, ⟨by decide +kernel, by decide +kernel, by decide +kernel⟩, by decide⟩
abbrev mX9_readsBoat : lk_M := (yX9_readsBoat, cX9_readsBoat, 2, none)
theorem vX9_readsBoat : lk_cv mX9_readsBoat 0 := ⟨lk_in4 (List.mem_of_getElem? (i := 190) rfl) rfl, lk_inS (List.mem_of_getElem? (i := 27) rfl) rfl, lk_in1 (List.mem_of_getElem? (i := 10) rfl) rfl, lk_in4 (List.mem_of_getElem? (i := 191) rfl) rfl, ⟨by decide +kernel, by decide +kernel, by decide +kernel⟩, by decide⟩
abbrev mX9_where : lk_M := (yX9_where, cX9_where, 3, (some .int))
theorem vX9_where : lk_cv mX9_where 1 := ⟨lk_in4 (List.mem_of_getElem? (i := 217) rfl) rfl, lk_inS (List.mem_of_getElem? (i := 33) rfl) rfl, lk_in1 (List.mem_of_getElem? (i := 10) rfl) rfl, lk_in4 (List.mem_of_getElem? (i := 218) rfl) rfl, ⟨by decide +kernel, by decide +kernel, by decide +kernel⟩, by decide⟩
abbrev mX9_isThere : lk_M := (yX9_isThere, cX9_isThere, 3, (some .boolean))
theorem vX9_isThere : lk_cv mX9_isThere 2 := ⟨lk_in4 (List.mem_of_getElem? (i := 221) rfl) rfl, lk_inS (List.mem_of_getElem? (i := 34) rfl) rfl, lk_in1 (List.mem_of_getElem? (i := 10) rfl) rfl, lk_in4 (List.mem_of_getElem? (i := 222) rfl) rfl, ⟨by decide +kernel, by decide +kernel, by decide +kernel⟩, by decide⟩
abbrev mX9_shifts : lk_M := (yX9_shifts, cX9_shifts, 4, none)
theorem vX9_shifts : lk_cv mX9_shifts 2 := ⟨lk_in4 (List.mem_of_getElem? (i := 225) rfl) rfl, lk_inS (List.mem_of_getElem? (i := 35) rfl) rfl, lk_in1 (List.mem_of_getElem? (i := 10) rfl) rfl, lk_in4 (List.mem_of_getElem? (i := 226) rfl) rfl, ⟨by decide +kernel, by decide +kernel, by decide +kernel⟩, by decide⟩
abbrev mX9_comes : lk_M := (yX9_comes, cX9_comes, 4, (some .boolean))
theorem vX9_comes : lk_cv mX9_comes 1 := ⟨lk_in4 (List.mem_of_getElem? (i := 213) rfl) rfl, lk_inS (List.mem_of_getElem? (i := 32) rfl) rfl, lk_in1 (List.mem_of_getElem? (i := 10) rfl) rfl, lk_in4 (List.mem_of_getElem? (i := 214) rfl) rfl, ⟨by decide +kernel, by decide +kernel, by decide +kernel⟩, by decide⟩
abbrev mX9_boats : lk_M := (yX9_boats, cX9_boats, 2, (some .int))
theorem vX9_boats : lk_cv mX9_boats 0 := ⟨lk_in4 (List.mem_of_getElem? (i := 185) rfl) rfl, lk_in4 (List.mem_of_getElem? (i := 186) rfl) rfl, lk_in1 (List.mem_of_getElem? (i := 10) rfl) rfl, lk_in4 (List.mem_of_getElem? (i := 187) rfl) rfl, ⟨by decide +kernel, by decide +kernel, by decide +kernel⟩, by decide⟩
abbrev mX9_letter : lk_M := (yX9_letter, cX9_letter, 4, (some .int))
theorem vX9_letter : lk_cs mX9_letter 2 := ⟨lk_in4 (List.mem_of_getElem? (i := 236) rfl) rfl, lk_in1 (List.mem_of_getElem? (i := 10) rfl) rfl, lk_in4 (List.mem_of_getElem? (i := 237) rfl) rfl, ⟨by decide +kernel, by decide +kernel, by decide +kernel⟩, by decide⟩
abbrev mX9_boat : lk_M := (yX9_boat, cX9_boat, 5, (some .int))
theorem vX9_boat : lk_cv mX9_boat 2 := ⟨lk_in4 (List.mem_of_getElem? (i := 228) rfl) rfl, lk_in4 (List.mem_of_getElem? (i := 229) rfl) rfl, lk_in1 (List.mem_of_getElem? (i := 10) rfl) rfl, lk_in4 (List.mem_of_getElem? (i := 230) rfl) rfl, ⟨by decide +kernel, by decide +kernel, by decide +kernel⟩, by decide⟩
abbrev mX9_find : lk_M := (yX9_find, cX9_find, 4, (some .int))
theorem vX9_find : lk_cv mX9_find 0 := ⟨lk_in4 (List.mem_of_getElem? (i := 239) rfl) rfl, lk_in5 (List.mem_of_getElem? (i := 0) rfl) rfl, lk_in1 (List.mem_of_getElem? (i := 10) rfl) rfl, lk_in5 (List.mem_of_getElem? (i := 1) rfl) rfl, ⟨by decide +kernel, by decide +kernel, by decide +kernel⟩, by decide⟩
abbrev mX9_leaves : lk_M := (yX9_leaves, cX9_leaves, 3, (some .int))
theorem vX9_leaves : lk_cv mX9_leaves 1 := ⟨lk_in5 (List.mem_of_getElem? (i := 3) rfl) rfl, lk_in5 (List.mem_of_getElem? (i := 4) rfl) rfl, lk_in1 (List.mem_of_getElem? (i := 10) rfl) rfl, lk_in5 (List.mem_of_getElem? (i := 5) rfl) rfl, ⟨by decide +kernel, by decide +kernel, by decide +kernel⟩, by decide⟩
abbrev mX9_about : lk_M := (yX9_about, cX9_about, 2, (some .int))
theorem vX9_about : lk_cv mX9_about 1 := ⟨lk_in5 (List.mem_of_getElem? (i := 7) rfl) rfl, lk_in5 (List.mem_of_getElem? (i := 8) rfl) rfl, lk_in1 (List.mem_of_getElem? (i := 10) rfl) rfl, lk_in5 (List.mem_of_getElem? (i := 9) rfl) rfl, ⟨by decide +kernel, by decide +kernel, by decide +kernel⟩, by decide⟩
abbrev mX9_flows : lk_M := (yX9_flows, cX9_flows, 7, (some .boolean))
theorem vX9_flows : lk_cv mX9_flows 4 := ⟨lk_in5 (List.mem_of_getElem? (i := 42) rfl) rfl, lk_inS (List.mem_of_getElem? (i := 43) rfl) rfl, lk_in1 (List.mem_of_getElem? (i := 10) rfl) rfl, lk_in5 (List.mem_of_getElem? (i := 43) rfl) rfl, ⟨by decide +kernel, by decide +kernel, by decide +kernel⟩, by decide⟩
abbrev mX9_fills : lk_M := (yX9_fills, cX9_fills, 2, (some .boolean))
theorem vX9_fills : lk_cv mX9_fills 1 := ⟨lk_in5 (List.mem_of_getElem? (i := 46) rfl) rfl, lk_inS (List.mem_of_getElem? (i := 44) rfl) rfl, lk_in1 (List.mem_of_getElem? (i := 10) rfl) rfl, lk_in5 (List.mem_of_getElem? (i := 47) rfl) rfl, ⟨by decide +kernel, by decide +kernel, by decide +kernel⟩, by decide⟩
abbrev mX9_empties : lk_M := (yX9_empties, cX9_empties, 2, (some .boolean))
theorem vX9_empties : lk_cv mX9_empties 1 := ⟨lk_in5 (List.mem_of_getElem? (i := 38) rfl) rfl, lk_inS (List.mem_of_getElem? (i := 42) rfl) rfl, lk_in1 (List.mem_of_getElem? (i := 10) rfl) rfl, lk_in5 (List.mem_of_getElem? (i := 39) rfl) rfl, ⟨by decide +kernel, by decide +kernel, by decide +kernel⟩, by decide⟩
abbrev mX9_goes : lk_M := (yX9_goes, cX9_goes, 9, (some .boolean))
theorem vX9_goes : lk_cv mX9_goes 3 := ⟨lk_in5 (List.mem_of_getElem? (i := 34) rfl) rfl, lk_inS (List.mem_of_getElem? (i := 41) rfl) rfl, lk_in1 (List.mem_of_getElem? (i := 10) rfl) rfl, lk_in5 (List.mem_of_getElem? (i := 35) rfl) rfl, ⟨by decide +kernel, by decide +kernel, by decide +kernel⟩, by decide⟩
abbrev mX9_goesTruly : lk_M := (yX9_goesTruly, cX9_goesTruly, 4, (some .boolean))
theorem vX9_goesTruly : lk_cv mX9_goesTruly 3 := ⟨lk_in5 (List.mem_of_getElem? (i := 30) rfl) rfl, lk_inS (List.mem_of_getElem? (i := 40) rfl) rfl, lk_in1 (List.mem_of_getElem? (i := 10) rfl) rfl, lk_in5 (List.mem_of_getElem? (i := 31) rfl) rfl, ⟨by decide +kernel, by decide +kernel, by decide +kernel⟩, by decide⟩
abbrev mX9_isUp : lk_M := (yX9_isUp, cX9_isUp, 2, (some .boolean))
theorem vX9_isUp : lk_cv mX9_isUp 1 := ⟨lk_in5 (List.mem_of_getElem? (i := 21) rfl) rfl, lk_inS (List.mem_of_getElem? (i := 38) rfl) rfl, lk_in1 (List.mem_of_getElem? (i := 10) rfl) rfl, lk_in5 (List.mem_of_getElem? (i := 22) rfl) rfl, ⟨by decide +kernel, by decide +kernel, by decide +kernel⟩, by decide⟩
abbrev mX9_lockOf : lk_M := (yX9_lockOf, cX9_lockOf, 3, (some .int))
theorem vX9_lockOf : lk_cv mX9_lockOf 1 := ⟨lk_in5 (List.mem_of_getElem? (i := 17) rfl) rfl, lk_inS (List.mem_of_getElem? (i := 37) rfl) rfl, lk_in1 (List.mem_of_getElem? (i := 10) rfl) rfl, lk_in5 (List.mem_of_getElem? (i := 18) rfl) rfl, ⟨by decide +kernel, by decide +kernel, by decide +kernel⟩, by decide⟩
abbrev mX9_boatGoes : lk_M := (yX9_boatGoes, cX9_boatGoes, 5, (some .boolean))
theorem vX9_boatGoes : lk_cv mX9_boatGoes 2 := ⟨lk_in5 (List.mem_of_getElem? (i := 26) rfl) rfl, lk_inS (List.mem_of_getElem? (i := 39) rfl) rfl, lk_in1 (List.mem_of_getElem? (i := 10) rfl) rfl, lk_in5 (List.mem_of_getElem? (i := 27) rfl) rfl, ⟨by decide +kernel, by decide +kernel, by decide +kernel⟩, by decide⟩
abbrev mX9_pass : lk_M := (yX9_pass, cX9_pass, 2, (some .int))
theorem vX9_pass : lk_cv mX9_pass 1 := ⟨lk_in5 (List.mem_of_getElem? (i := 11) rfl) rfl, lk_in5 (List.mem_of_getElem? (i := 12) rfl) rfl, lk_in1 (List.mem_of_getElem? (i := 10) rfl) rfl, lk_in5 (List.mem_of_getElem? (i := 13) rfl) rfl, ⟨by decide +kernel, by decide +kernel, by decide +kernel⟩, by decide⟩
abbrev mX9_through : lk_M := (yX9_through, cX9_through, 3, (some .int))
theorem vX9_through : lk_cv mX9_through 1 := ⟨lk_in5 (List.mem_of_getElem? (i := 50) rfl) rfl, lk_in5 (List.mem_of_getElem? (i := 51) rfl) rfl, lk_in1 (List.mem_of_getElem? (i := 10) rfl) rfl, lk_in5 (List.mem_of_getElem? (i := 52) rfl) rfl, ⟨by decide +kernel, by decide +kernel, by decide +kernel⟩, by decide⟩
abbrev mX9_costs : lk_M := (yX9_costs, cX9_costs, 6, (some .int))
theorem vX9_costs : lk_cv mX9_costs 1 := ⟨lk_in5 (List.mem_of_getElem? (i := 54) rfl) rfl, lk_in5 (List.mem_of_getElem? (i := 55) rfl) rfl, lk_in1 (List.mem_of_getElem? (i := 10) rfl) rfl, lk_in5 (List.mem_of_getElem? (i := 56) rfl) rfl, ⟨by decide +kernel, by decide +kernel, by decide +kernel⟩, by decide⟩
abbrev mX9_why : lk_M := (yX9_why, cX9_why, 2, (some .int))
theorem vX9_why : lk_cv mX9_why 1 := ⟨lk_in5 (List.mem_of_getElem? (i := 58) rfl) rfl, lk_in5 (List.mem_of_getElem? (i := 59) rfl) rfl, lk_in1 (List.mem_of_getElem? (i := 10) rfl) rfl, lk_in5 (List.mem_of_getElem? (i := 60) rfl) rfl, ⟨by decide +kernel, by decide +kernel, by decide +kernel⟩, by decide⟩
abbrev mX9_queues : lk_M := (yX9_queues, cX9_queues, 7, (some .int))
theorem vX9_queues : lk_cv mX9_queues 3 := ⟨lk_in5 (List.mem_of_getElem? (i := 71) rfl) rfl, lk_inS (List.mem_of_getElem? (i := 46) rfl) rfl, lk_in1 (List.mem_of_getElem? (i := 10) rfl) rfl, lk_in5 (List.mem_of_getElem? (i := 72) rfl) rfl, ⟨by decide +kernel, by decide +kernel, by decide +kernel⟩, by decide⟩
abbrev mX9_queuesOf : lk_M := (yX9_queuesOf, cX9_queuesOf, 2, none)
theorem vX9_queuesOf : lk_cv mX9_queuesOf 1 := ⟨lk_in5 (List.mem_of_getElem? (i := 67) rfl) rfl, lk_inS (List.mem_of_getElem? (i := 45) rfl) rfl, lk_in1 (List.mem_of_getElem? (i := 10) rfl) rfl, lk_in5 (List.mem_of_getElem? (i := 68) rfl) rfl, ⟨by decide +kernel, by decide +kernel, by decide +kernel⟩, by decide⟩
abbrev mX9_queue : lk_M := (yX9_queue, cX9_queue, 3, (some .int))
theorem vX9_queue : lk_cv mX9_queue 2 := ⟨lk_in5 (List.mem_of_getElem? (i := 62) rfl) rfl, lk_in5 (List.mem_of_getElem? (i := 63) rfl) rfl, lk_in1 (List.mem_of_getElem? (i := 10) rfl) rfl, lk_in5 (List.mem_of_getElem? (i := 64) rfl) rfl, ⟨by decide +kernel, by decide +kernel, by decide +kernel⟩, by decide⟩
abbrev mX9_weaves : lk_M := (yX9_weaves, cX9_weaves, 11, none)
theorem vX9_weaves : lk_cv mX9_weaves 4 := ⟨lk_in5 (List.mem_of_getElem? (i := 84) rfl) rfl, lk_inS (List.mem_of_getElem? (i := 48) rfl) rfl, lk_in1 (List.mem_of_getElem? (i := 10) rfl) rfl, lk_in5 (List.mem_of_getElem? (i := 85) rfl) rfl, ⟨by decide +kernel, by decide +kernel, by decide +kernel⟩, by decide⟩
abbrev mX9_weavesAll : lk_M := (yX9_weavesAll, cX9_weavesAll, 2, none)
theorem vX9_weavesAll : lk_cv mX9_weavesAll 1 := ⟨lk_in5 (List.mem_of_getElem? (i := 79) rfl) rfl, lk_inS (List.mem_of_getElem? (i := 47) rfl) rfl, lk_in1 (List.mem_of_getElem? (i := 10) rfl) rfl, lk_in5 (List.mem_of_getElem? (i := 80) rfl) rfl, ⟨by decide +kernel, by decide +kernel, by decide +kernel⟩, by decide⟩
abbrev mX9_orders : lk_M := (yX9_orders, cX9_orders, 2, (some .int))
theorem vX9_orders : lk_cv mX9_orders 1 := ⟨lk_in5 (List.mem_of_getElem? (i := 74) rfl) rfl, lk_in5 (List.mem_of_getElem? (i := 75) rfl) rfl, lk_in1 (List.mem_of_getElem? (i := 10) rfl) rfl, lk_in5 (List.mem_of_getElem? (i := 76) rfl) rfl, ⟨by decide +kernel, by decide +kernel, by decide +kernel⟩, by decide⟩
abbrev mX9_best : lk_M := (yX9_best, cX9_best, 4, (some .int))
theorem vX9_best : lk_cv mX9_best 2 := ⟨lk_in5 (List.mem_of_getElem? (i := 88) rfl) rfl, lk_in5 (List.mem_of_getElem? (i := 89) rfl) rfl, lk_in1 (List.mem_of_getElem? (i := 10) rfl) rfl, lk_in5 (List.mem_of_getElem? (i := 90) rfl) rfl, ⟨by decide +kernel, by decide +kernel, by decide +kernel⟩, by decide⟩
abbrev mX9_isFromBelow : lk_M := (yX9_isFromBelow, cX9_isFromBelow, 7, (some .boolean))
theorem vX9_isFromBelow : lk_cv mX9_isFromBelow 4 := ⟨lk_in5 (List.mem_of_getElem? (i := 101) rfl) rfl, lk_inS (List.mem_of_getElem? (i := 50) rfl) rfl, lk_in1 (List.mem_of_getElem? (i := 10) rfl) rfl, lk_in5 (List.mem_of_getElem? (i := 102) rfl) rfl, ⟨by decide +kernel, by decide +kernel, by decide +kernel⟩, by decide⟩
abbrev mX9_runs : lk_M := (yX9_runs, cX9_runs, 7, none)
theorem vX9_runs : lk_cv mX9_runs 3 := ⟨lk_in5 (List.mem_of_getElem? (i := 97) rfl) rfl, lk_inS (List.mem_of_getElem? (i := 49) rfl) rfl, lk_in1 (List.mem_of_getElem? (i := 10) rfl) rfl, lk_in5 (List.mem_of_getElem? (i := 98) rfl) rfl, ⟨by decide +kernel, by decide +kernel, by decide +kernel⟩, by decide⟩
abbrev mX9_ruled : lk_M := (yX9_ruled, cX9_ruled, 5, (some .int))
theorem vX9_ruled : lk_cv mX9_ruled 3 := ⟨lk_in5 (List.mem_of_getElem? (i := 92) rfl) rfl, lk_in5 (List.mem_of_getElem? (i := 93) rfl) rfl, lk_in1 (List.mem_of_getElem? (i := 10) rfl) rfl, lk_in5 (List.mem_of_getElem? (i := 94) rfl) rfl, ⟨by decide +kernel, by decide +kernel, by decide +kernel⟩, by decide⟩
abbrev mX9_run : lk_M := (yX9_run, cX9_run, 3, (some .int))
theorem vX9_run : lk_cv mX9_run 2 := ⟨lk_in5 (List.mem_of_getElem? (i := 104) rfl) rfl, lk_in5 (List.mem_of_getElem? (i := 105) rfl) rfl, lk_in1 (List.mem_of_getElem? (i := 10) rfl) rfl, lk_in5 (List.mem_of_getElem? (i := 106) rfl) rfl, ⟨by decide +kernel, by decide +kernel, by decide +kernel⟩, by decide⟩
abbrev mX9_keeper : lk_M := (yX9_keeper, cX9_keeper, 6, (some .int))
theorem vX9_keeper : lk_cv mX9_keeper 1 := ⟨lk_in5 (List.mem_of_getElem? (i := 108) rfl) rfl, lk_in5 (List.mem_of_getElem? (i := 109) rfl) rfl, lk_in1 (List.mem_of_getElem? (i := 10) rfl) rfl, lk_in5 (List.mem_of_getElem? (i := 110) rfl) rfl, ⟨by decide +kernel, by decide +kernel, by decide +kernel⟩, by decide⟩
abbrev mX9_crosses : lk_M := (yX9_crosses, cX9_crosses, 6, (some .boolean))
theorem vX9_crosses : lk_cv mX9_crosses 2 := ⟨lk_in5 (List.mem_of_getElem? (i := 125) rfl) rfl, lk_inS (List.mem_of_getElem? (i := 52) rfl) rfl, lk_in1 (List.mem_of_getElem? (i := 10) rfl) rfl, lk_in5 (List.mem_of_getElem? (i := 126) rfl) rfl, ⟨by decide +kernel, by decide +kernel, by decide +kernel⟩, by decide⟩
abbrev mX9_dayGoes : lk_M := (yX9_dayGoes, cX9_dayGoes, 9, none)
theorem vX9_dayGoes : lk_cv mX9_dayGoes 3 := ⟨lk_in5 (List.mem_of_getElem? (i := 120) rfl) rfl, lk_inS (List.mem_of_getElem? (i := 51) rfl) rfl, lk_in1 (List.mem_of_getElem? (i := 10) rfl) rfl, lk_in5 (List.mem_of_getElem? (i := 121) rfl) rfl, ⟨by decide +kernel, by decide +kernel, by decide +kernel⟩, by decide⟩
abbrev mX9_isTraffic : lk_M := (yX9_isTraffic, cX9_isTraffic, 2, (some .boolean))
theorem vX9_isTraffic : lk_cs mX9_isTraffic 2 := ⟨lk_in5 (List.mem_of_getElem? (i := 116) rfl) rfl, lk_in1 (List.mem_of_getElem? (i := 10) rfl) rfl, lk_in5 (List.mem_of_getElem? (i := 117) rfl) rfl, ⟨by decide +kernel, by decide +kernel, by decide +kernel⟩, by decide⟩
abbrev mX9_day : lk_M := (yX9_day, cX9_day, 3, (some .int))
theorem vX9_day : lk_cv mX9_day 2 := ⟨lk_in5 (List.mem_of_getElem? (i := 112) rfl) rfl, lk_in5 (List.mem_of_getElem? (i := 113) rfl) rfl, lk_in1 (List.mem_of_getElem? (i := 10) rfl) rfl, lk_in5 (List.mem_of_getElem? (i := 114) rfl) rfl, ⟨by decide +kernel, by decide +kernel, by decide +kernel⟩, by decide⟩
abbrev mX9_dry : lk_M := (yX9_dry, cX9_dry, 5, (some .int))
theorem vX9_dry : lk_cv mX9_dry 3 := ⟨lk_in5 (List.mem_of_getElem? (i := 128) rfl) rfl, lk_in5 (List.mem_of_getElem? (i := 129) rfl) rfl, lk_in1 (List.mem_of_getElem? (i := 10) rfl) rfl, lk_in5 (List.mem_of_getElem? (i := 130) rfl) rfl, ⟨by decide +kernel, by decide +kernel, by decide +kernel⟩, by decide⟩
abbrev mX9_summit : lk_M := (yX9_summit, cX9_summit, 5, (some .int))
theorem vX9_summit : lk_cv mX9_summit 3 := ⟨lk_in5 (List.mem_of_getElem? (i := 137) rfl) rfl, lk_inS (List.mem_of_getElem? (i := 53) rfl) rfl, lk_in1 (List.mem_of_getElem? (i := 10) rfl) rfl, lk_in5 (List.mem_of_getElem? (i := 138) rfl) rfl, ⟨by decide +kernel, by decide +kernel, by decide +kernel⟩, by decide⟩
abbrev mX9_pond : lk_M := (yX9_pond, cX9_pond, 8, (some .int))
theorem vX9_pond : lk_cv mX9_pond 3 := ⟨lk_in5 (List.mem_of_getElem? (i := 132) rfl) rfl, lk_in5 (List.mem_of_getElem? (i := 133) rfl) rfl, lk_in1 (List.mem_of_getElem? (i := 10) rfl) rfl, lk_in5 (List.mem_of_getElem? (i := 134) rfl) rfl, ⟨by decide +kernel, by decide +kernel, by decide +kernel⟩, by decide⟩
abbrev mX9_water : lk_M := (yX9_water, cX9_water, 3, (some .int))
theorem vX9_water : lk_cv mX9_water 0 := ⟨lk_in5 (List.mem_of_getElem? (i := 140) rfl) rfl, lk_in5 (List.mem_of_getElem? (i := 141) rfl) rfl, lk_in1 (List.mem_of_getElem? (i := 10) rfl) rfl, lk_in5 (List.mem_of_getElem? (i := 142) rfl) rfl, ⟨by decide +kernel, by decide +kernel, by decide +kernel⟩, by decide⟩
abbrev mX9_levels : lk_M := (yX9_levels, cX9_levels, 7, (some .int))
theorem vX9_levels : lk_cv mX9_levels 1 := ⟨lk_in5 (List.mem_of_getElem? (i := 144) rfl) rfl, lk_in5 (List.mem_of_getElem? (i := 145) rfl) rfl, lk_in1 (List.mem_of_getElem? (i := 10) rfl) rfl, lk_in5 (List.mem_of_getElem? (i := 146) rfl) rfl, ⟨by decide +kernel, by decide +kernel, by decide +kernel⟩, by decide⟩
abbrev mX9_tally : lk_M := (yX9_tally, cX9_tally, 6, (some .int))
theorem vX9_tally : lk_cv mX9_tally 2 := ⟨lk_in5 (List.mem_of_getElem? (i := 148) rfl) rfl, lk_in5 (List.mem_of_getElem? (i := 149) rfl) rfl, lk_in1 (List.mem_of_getElem? (i := 10) rfl) rfl, lk_in5 (List.mem_of_getElem? (i := 150) rfl) rfl, ⟨by decide +kernel, by decide +kernel, by decide +kernel⟩, by decide⟩
abbrev mX9_isBeyond : lk_M := (yX9_isBeyond, cX9_isBeyond, 6, (some .boolean))
theorem vX9_isBeyond : lk_cs mX9_isBeyond 2 := ⟨lk_in5 (List.mem_of_getElem? (i := 156) rfl) rfl, lk_in1 (List.mem_of_getElem? (i := 10) rfl) rfl, lk_in5 (List.mem_of_getElem? (i := 157) rfl) rfl, ⟨by decide +kernel, by decide +kernel, by decide +kernel⟩, by decide⟩
abbrev mX9_pays : lk_M := (yX9_pays, cX9_pays, 9, (some .int))
theorem vX9_pays : lk_cv mX9_pays 2 := ⟨lk_in5 (List.mem_of_getElem? (i := 152) rfl) rfl, lk_in5 (List.mem_of_getElem? (i := 153) rfl) rfl, lk_in1 (List.mem_of_getElem? (i := 10) rfl) rfl, lk_in5 (List.mem_of_getElem? (i := 154) rfl) rfl, ⟨by decide +kernel, by decide +kernel, by decide +kernel⟩, by decide⟩
abbrev mX9_account : lk_M := (yX9_account, cX9_account, 1, (some .long))
theorem vX9_account : lk_cv mX9_account 0 := ⟨lk_in5 (List.mem_of_getElem? (i := 161) rfl) rfl, lk_in5 (List.mem_of_getElem? (i := 162) rfl) rfl, lk_in1 (List.mem_of_getElem? (i := 10) rfl) rfl, lk_in5 (List.mem_of_getElem? (i := 163) rfl) rfl, ⟨by decide +kernel, by decide +kernel, by decide +kernel⟩, by decide⟩
abbrev mX9_image : lk_M := (yX9_image, cX9_image, 1, (some .int))
theorem vX9_image : lk_cv mX9_image 0 := ⟨lk_in5 (List.mem_of_getElem? (i := 165) rfl) rfl, lk_in5 (List.mem_of_getElem? (i := 166) rfl) rfl, lk_in1 (List.mem_of_getElem? (i := 10) rfl) rfl, lk_in5 (List.mem_of_getElem? (i := 167) rfl) rfl, ⟨by decide +kernel, by decide +kernel, by decide +kernel⟩, by decide⟩
abbrev mX9_undo : lk_M := (yX9_undo, cX9_undo, 1, (some .int))
theorem vX9_undo : lk_cv mX9_undo 0 := ⟨lk_in5 (List.mem_of_getElem? (i := 169) rfl) rfl, lk_in5 (List.mem_of_getElem? (i := 170) rfl) rfl, lk_in1 (List.mem_of_getElem? (i := 10) rfl) rfl, lk_in5 (List.mem_of_getElem? (i := 171) rfl) rfl, ⟨by decide +kernel, by decide +kernel, by decide +kernel⟩, by decide⟩
abbrev mX9_count : lk_M := (yX9_count, cX9_count, 4, (some .int))
theorem vX9_count : lk_cv mX9_count 1 := ⟨lk_in5 (List.mem_of_getElem? (i := 173) rfl) rfl, lk_in5 (List.mem_of_getElem? (i := 174) rfl) rfl, lk_in1 (List.mem_of_getElem? (i := 10) rfl) rfl, lk_in5 (List.mem_of_getElem? (i := 175) rfl) rfl, ⟨by decide +kernel, by decide +kernel, by decide +kernel⟩, by decide⟩
abbrev mJ9_max_7cf53 : lk_M := (yJ9_max_7cf53, cJ9_max_7cf53, 2, (some .int))
theorem vJ9_max_7cf53 : lk_cs mJ9_max_7cf53 2 := ⟨lk_in3 (List.mem_of_getElem? (i := 204) rfl) rfl, lk_in1 (List.mem_of_getElem? (i := 12) rfl) rfl, lk_in3 (List.mem_of_getElem? (i := 205) rfl) rfl, ⟨by decide +kernel, by decide +kernel, by decide +kernel⟩, by decide⟩
abbrev mJ9_min_7cf53 : lk_M := (yJ9_min_7cf53, cJ9_min_7cf53, 2, (some .int))
theorem vJ9_min_7cf53 : lk_cs mJ9_min_7cf53 2 := ⟨lk_in3 (List.mem_of_getElem? (i := 103) rfl) rfl, lk_in1 (List.mem_of_getElem? (i := 12) rfl) rfl, lk_in3 (List.mem_of_getElem? (i := 104) rfl) rfl, ⟨by decide +kernel, by decide +kernel, by decide +kernel⟩, by decide⟩
theorem fX5_11 : Cond.fieldLink RX5 11 "LockStaircase$Tally" "often" "[I" ∈ lk_AW := lk_in1 (List.mem_of_getElem? (i := 34) rfl) rfl
theorem fX1_9 : Cond.fieldLink RX1 9 "LockStaircase$Cause" "known" "Z" ∈ lk_AW := lk_in1 (List.mem_of_getElem? (i := 46) rfl) rfl
theorem fX0_95 : Cond.fieldLink RX0 95 "LockStaircase$Cause" "known" "Z" ∈ lk_AW := lk_in1 (List.mem_of_getElem? (i := 47) rfl) rfl
theorem fX1_15 : Cond.fieldLink RX1 15 "LockStaircase$Cause" "lock" "I" ∈ lk_AW := lk_in1 (List.mem_of_getElem? (i := 48) rfl) rfl
theorem fX0_99 : Cond.fieldLink RX0 99 "LockStaircase$Cause" "lock" "I" ∈ lk_AW := lk_in1 (List.mem_of_getElem? (i := 49) rfl) rfl
theorem fX8_315 : Cond.fieldLink RX8 315 "LockStaircase$Cause" "lock" "I" ∈ lk_AW := lk_in1 (List.mem_of_getElem? (i := 50) rfl) rfl
theorem fX1_19 : Cond.fieldLink RX1 19 "LockStaircase$Cause" "step" "I" ∈ lk_AW := lk_in1 (List.mem_of_getElem? (i := 51) rfl) rfl
theorem fX0_102 : Cond.fieldLink RX0 102 "LockStaircase$Cause" "step" "I" ∈ lk_AW := lk_in1 (List.mem_of_getElem? (i := 52) rfl) rfl
theorem fX1_22 : Cond.fieldLink RX1 22 "LockStaircase$Cause" "reach" "I" ∈ lk_AW := lk_in1 (List.mem_of_getElem? (i := 53) rfl) rfl
theorem fX0_105 : Cond.fieldLink RX0 105 "LockStaircase$Cause" "reach" "I" ∈ lk_AW := lk_in1 (List.mem_of_getElem? (i := 54) rfl) rfl
theorem fX1_25 : Cond.fieldLink RX1 25 "LockStaircase$Cause" "side" "I" ∈ lk_AW := lk_in1 (List.mem_of_getElem? (i := 55) rfl) rfl
theorem fX0_108 : Cond.fieldLink RX0 108 "LockStaircase$Cause" "side" "I" ∈ lk_AW := lk_in1 (List.mem_of_getElem? (i := 56) rfl) rfl
theorem fX0_51 : Cond.fieldLink RX0 51 "LockStaircase$Canal" "locks" "I" ∈ lk_AW := lk_in1 (List.mem_of_getElem? (i := 68) rfl) rfl
theorem fX8_72 : Cond.fieldLink RX8 72 "LockStaircase$Canal" "locks" "I" ∈ lk_AW := lk_in1 (List.mem_of_getElem? (i := 69) rfl) rfl
theorem fX0_55 : Cond.fieldLink RX0 55 "LockStaircase$Canal" "inflow" "I" ∈ lk_AW := lk_in1 (List.mem_of_getElem? (i := 70) rfl) rfl
theorem fX8_127 : Cond.fieldLink RX8 127 "LockStaircase$Canal" "inflow" "I" ∈ lk_AW := lk_in1 (List.mem_of_getElem? (i := 71) rfl) rfl
theorem fX0_9 : Cond.fieldLink RX0 9 "LockStaircase$Canal" "lockful" "[I" ∈ lk_AW := lk_in1 (List.mem_of_getElem? (i := 72) rfl) rfl
theorem fX8_94 : Cond.fieldLink RX8 94 "LockStaircase$Canal" "lockful" "[I" ∈ lk_AW := lk_in1 (List.mem_of_getElem? (i := 73) rfl) rfl
theorem fX0_15 : Cond.fieldLink RX0 15 "LockStaircase$Canal" "ponds" "[I" ∈ lk_AW := lk_in1 (List.mem_of_getElem? (i := 74) rfl) rfl
theorem fX8_98 : Cond.fieldLink RX8 98 "LockStaircase$Canal" "ponds" "[I" ∈ lk_AW := lk_in1 (List.mem_of_getElem? (i := 75) rfl) rfl
theorem fX0_18 : Cond.fieldLink RX0 18 "LockStaircase$Canal" "held" "[I" ∈ lk_AW := lk_in1 (List.mem_of_getElem? (i := 76) rfl) rfl
theorem fX0_21 : Cond.fieldLink RX0 21 "LockStaircase$Canal" "full" "[Z" ∈ lk_AW := lk_in1 (List.mem_of_getElem? (i := 77) rfl) rfl
theorem fX4_32 : Cond.fieldLink RX4 32 "LockStaircase$Canal" "full" "[Z" ∈ lk_AW := lk_in1 (List.mem_of_getElem? (i := 78) rfl) rfl
theorem fX8_288 : Cond.fieldLink RX8 288 "LockStaircase$Canal" "full" "[Z" ∈ lk_AW := lk_in1 (List.mem_of_getElem? (i := 79) rfl) rfl
theorem fX0_25 : Cond.fieldLink RX0 25 "LockStaircase$Canal" "level" "[I" ∈ lk_AW := lk_in1 (List.mem_of_getElem? (i := 80) rfl) rfl
theorem fX8_107 : Cond.fieldLink RX8 107 "LockStaircase$Canal" "level" "[I" ∈ lk_AW := lk_in1 (List.mem_of_getElem? (i := 81) rfl) rfl
theorem fX0_28 : Cond.fieldLink RX0 28 "LockStaircase$Canal" "least" "[I" ∈ lk_AW := lk_in1 (List.mem_of_getElem? (i := 82) rfl) rfl
theorem fX8_110 : Cond.fieldLink RX8 110 "LockStaircase$Canal" "least" "[I" ∈ lk_AW := lk_in1 (List.mem_of_getElem? (i := 83) rfl) rfl
theorem fX0_31 : Cond.fieldLink RX0 31 "LockStaircase$Canal" "most" "[I" ∈ lk_AW := lk_in1 (List.mem_of_getElem? (i := 84) rfl) rfl
theorem fX8_113 : Cond.fieldLink RX8 113 "LockStaircase$Canal" "most" "[I" ∈ lk_AW := lk_in1 (List.mem_of_getElem? (i := 85) rfl) rfl
theorem fX0_34 : Cond.fieldLink RX0 34 "LockStaircase$Canal" "loss" "[I" ∈ lk_AW := lk_in1 (List.mem_of_getElem? (i := 86) rfl) rfl
theorem fX0_40 : Cond.fieldLink RX0 40 "LockStaircase$Canal" "tally" "LLockStaircase$Tally;" ∈ lk_AW := lk_in1 (List.mem_of_getElem? (i := 87) rfl) rfl
theorem fX8_328 : Cond.fieldLink RX8 328 "LockStaircase$Canal" "tally" "LLockStaircase$Tally;" ∈ lk_AW := lk_in1 (List.mem_of_getElem? (i := 88) rfl) rfl
theorem fX0_47 : Cond.fieldLink RX0 47 "LockStaircase$Canal" "cause" "LLockStaircase$Cause;" ∈ lk_AW := lk_in1 (List.mem_of_getElem? (i := 89) rfl) rfl
theorem fX8_216 : Cond.fieldLink RX8 216 "LockStaircase$Canal" "cause" "LLockStaircase$Cause;" ∈ lk_AW := lk_in1 (List.mem_of_getElem? (i := 90) rfl) rfl
theorem fX0_119 : Cond.fieldLink RX0 119 "LockStaircase$Canal" "barred" "Z" ∈ lk_AW := lk_in1 (List.mem_of_getElem? (i := 91) rfl) rfl
theorem fX8_311 : Cond.fieldLink RX8 311 "LockStaircase$Canal" "barred" "Z" ∈ lk_AW := lk_in1 (List.mem_of_getElem? (i := 92) rfl) rfl
theorem fX2_11 : Cond.fieldLink RX2 11 "LockStaircase$Fleet" "name" "[I" ∈ lk_AW := lk_in1 (List.mem_of_getElem? (i := 126) rfl) rfl
theorem fX2_15 : Cond.fieldLink RX2 15 "LockStaircase$Fleet" "size" "[I" ∈ lk_AW := lk_in1 (List.mem_of_getElem? (i := 127) rfl) rfl
theorem fX8_195 : Cond.fieldLink RX8 195 "LockStaircase$Fleet" "size" "[I" ∈ lk_AW := lk_in1 (List.mem_of_getElem? (i := 128) rfl) rfl
theorem fX2_18 : Cond.fieldLink RX2 18 "LockStaircase$Fleet" "rank" "[I" ∈ lk_AW := lk_in1 (List.mem_of_getElem? (i := 129) rfl) rfl
theorem fX2_21 : Cond.fieldLink RX2 21 "LockStaircase$Fleet" "up" "[Z" ∈ lk_AW := lk_in1 (List.mem_of_getElem? (i := 130) rfl) rfl
theorem fX3_25 : Cond.fieldLink RX3 25 "LockStaircase$Fleet" "up" "[Z" ∈ lk_AW := lk_in1 (List.mem_of_getElem? (i := 131) rfl) rfl
theorem fX8_182 : Cond.fieldLink RX8 182 "LockStaircase$Fleet" "up" "[Z" ∈ lk_AW := lk_in1 (List.mem_of_getElem? (i := 132) rfl) rfl
theorem fX2_25 : Cond.fieldLink RX2 25 "LockStaircase$Fleet" "reach" "[I" ∈ lk_AW := lk_in1 (List.mem_of_getElem? (i := 133) rfl) rfl
theorem fX3_22 : Cond.fieldLink RX3 22 "LockStaircase$Fleet" "reach" "[I" ∈ lk_AW := lk_in1 (List.mem_of_getElem? (i := 134) rfl) rfl
theorem fX8_187 : Cond.fieldLink RX8 187 "LockStaircase$Fleet" "reach" "[I" ∈ lk_AW := lk_in1 (List.mem_of_getElem? (i := 135) rfl) rfl
theorem fX2_28 : Cond.fieldLink RX2 28 "LockStaircase$Fleet" "count" "I" ∈ lk_AW := lk_in1 (List.mem_of_getElem? (i := 136) rfl) rfl
theorem fX8_76 : Cond.fieldLink RX8 76 "LockStaircase$Fleet" "count" "I" ∈ lk_AW := lk_in1 (List.mem_of_getElem? (i := 137) rfl) rfl
theorem fX3_21 : Cond.fieldLink RX3 21 "LockStaircase$Fleet" "count" "I" ∈ lk_AW := lk_in1 (List.mem_of_getElem? (i := 138) rfl) rfl
theorem fX6_9 : Cond.fieldLink RX6 9 "LockStaircase$Tape" "bytes" "[I" ∈ lk_AW := lk_in1 (List.mem_of_getElem? (i := 158) rfl) rfl
theorem fX6_13 : Cond.fieldLink RX6 13 "LockStaircase$Tape" "length" "I" ∈ lk_AW := lk_in1 (List.mem_of_getElem? (i := 159) rfl) rfl
theorem fX8_133 : Cond.fieldLink RX8 133 "LockStaircase$Tape" "length" "I" ∈ lk_AW := lk_in1 (List.mem_of_getElem? (i := 160) rfl) rfl
theorem fX6_17 : Cond.fieldLink RX6 17 "LockStaircase$Tape" "at" "I" ∈ lk_AW := lk_in1 (List.mem_of_getElem? (i := 161) rfl) rfl
theorem fX8_144 : Cond.fieldLink RX8 144 "LockStaircase$Tape" "at" "I" ∈ lk_AW := lk_in1 (List.mem_of_getElem? (i := 162) rfl) rfl
theorem fX2_38 : Cond.fieldLink RX2 38 "LockStaircase$Tape" "name" "I" ∈ lk_AW := lk_in1 (List.mem_of_getElem? (i := 163) rfl) rfl
theorem fX6_24 : Cond.fieldLink RX6 24 "LockStaircase$Tape" "name" "I" ∈ lk_AW := lk_in1 (List.mem_of_getElem? (i := 164) rfl) rfl
theorem fX2_50 : Cond.fieldLink RX2 50 "LockStaircase$Tape" "up" "Z" ∈ lk_AW := lk_in1 (List.mem_of_getElem? (i := 165) rfl) rfl
theorem fX6_47 : Cond.fieldLink RX6 47 "LockStaircase$Tape" "up" "Z" ∈ lk_AW := lk_in1 (List.mem_of_getElem? (i := 166) rfl) rfl
theorem fX2_46 : Cond.fieldLink RX2 46 "LockStaircase$Tape" "size" "I" ∈ lk_AW := lk_in1 (List.mem_of_getElem? (i := 167) rfl) rfl
theorem fX6_35 : Cond.fieldLink RX6 35 "LockStaircase$Tape" "size" "I" ∈ lk_AW := lk_in1 (List.mem_of_getElem? (i := 168) rfl) rfl
theorem fX2_48 : Cond.fieldLink RX2 48 "LockStaircase$Tape" "rank" "I" ∈ lk_AW := lk_in1 (List.mem_of_getElem? (i := 169) rfl) rfl
theorem fX6_38 : Cond.fieldLink RX6 38 "LockStaircase$Tape" "rank" "I" ∈ lk_AW := lk_in1 (List.mem_of_getElem? (i := 170) rfl) rfl
theorem fX2_53 : Cond.fieldLink RX2 53 "LockStaircase$Tape" "reach" "I" ∈ lk_AW := lk_in1 (List.mem_of_getElem? (i := 171) rfl) rfl
theorem fX6_41 : Cond.fieldLink RX6 41 "LockStaircase$Tape" "reach" "I" ∈ lk_AW := lk_in1 (List.mem_of_getElem? (i := 172) rfl) rfl
theorem fX3_11 : Cond.fieldLink RX3 11 "LockStaircase$Line" "boats" "[I" ∈ lk_AW := lk_in1 (List.mem_of_getElem? (i := 196) rfl) rfl
theorem fX7_9 : Cond.fieldLink RX7 9 "LockStaircase$Line" "count" "I" ∈ lk_AW := lk_in1 (List.mem_of_getElem? (i := 197) rfl) rfl
theorem fX3_17 : Cond.fieldLink RX3 17 "LockStaircase$Line" "count" "I" ∈ lk_AW := lk_in1 (List.mem_of_getElem? (i := 198) rfl) rfl
theorem fX4_21 : Cond.fieldLink RX4 21 "LockStaircase$Line" "count" "I" ∈ lk_AW := lk_in1 (List.mem_of_getElem? (i := 199) rfl) rfl
theorem fX8_227 : Cond.fieldLink RX8 227 "LockStaircase$Line" "count" "I" ∈ lk_AW := lk_in1 (List.mem_of_getElem? (i := 200) rfl) rfl
theorem fX4_9 : Cond.fieldLink RX4 9 "LockStaircase$RuleRun" "fromBelow" "I" ∈ lk_AW := lk_in1 (List.mem_of_getElem? (i := 212) rfl) rfl
theorem fX8_295 : Cond.fieldLink RX8 295 "LockStaircase$RuleRun" "fromBelow" "I" ∈ lk_AW := lk_in1 (List.mem_of_getElem? (i := 213) rfl) rfl
theorem fX4_15 : Cond.fieldLink RX4 15 "LockStaircase$RuleRun" "fromAbove" "I" ∈ lk_AW := lk_in1 (List.mem_of_getElem? (i := 214) rfl) rfl
theorem fX8_302 : Cond.fieldLink RX8 302 "LockStaircase$RuleRun" "fromAbove" "I" ∈ lk_AW := lk_in1 (List.mem_of_getElem? (i := 215) rfl) rfl
theorem fX4_18 : Cond.fieldLink RX4 18 "LockStaircase$RuleRun" "spent" "I" ∈ lk_AW := lk_in1 (List.mem_of_getElem? (i := 216) rfl) rfl
theorem fX8_282 : Cond.fieldLink RX8 282 "LockStaircase$RuleRun" "spent" "I" ∈ lk_AW := lk_in1 (List.mem_of_getElem? (i := 217) rfl) rfl
theorem fX7_26 : Cond.fieldLink RX7 26 "LockStaircase$Weaving" "boats" "I" ∈ lk_AW := lk_in1 (List.mem_of_getElem? (i := 231) rfl) rfl
theorem fX8_245 : Cond.fieldLink RX8 245 "LockStaircase$Weaving" "boats" "I" ∈ lk_AW := lk_in1 (List.mem_of_getElem? (i := 232) rfl) rfl
theorem fX7_23 : Cond.fieldLink RX7 23 "LockStaircase$Weaving" "fromAbove" "I" ∈ lk_AW := lk_in1 (List.mem_of_getElem? (i := 233) rfl) rfl
theorem fX7_29 : Cond.fieldLink RX7 29 "LockStaircase$Weaving" "good" "I" ∈ lk_AW := lk_in1 (List.mem_of_getElem? (i := 234) rfl) rfl
theorem fX8_238 : Cond.fieldLink RX8 238 "LockStaircase$Weaving" "good" "I" ∈ lk_AW := lk_in1 (List.mem_of_getElem? (i := 235) rfl) rfl
theorem fX7_32 : Cond.fieldLink RX7 32 "LockStaircase$Weaving" "leastSpent" "I" ∈ lk_AW := lk_in1 (List.mem_of_getElem? (i := 236) rfl) rfl
theorem fX8_267 : Cond.fieldLink RX8 267 "LockStaircase$Weaving" "leastSpent" "I" ∈ lk_AW := lk_in1 (List.mem_of_getElem? (i := 237) rfl) rfl
theorem fX7_35 : Cond.fieldLink RX7 35 "LockStaircase$Weaving" "bestMask" "I" ∈ lk_AW := lk_in1 (List.mem_of_getElem? (i := 238) rfl) rfl
theorem fX8_273 : Cond.fieldLink RX8 273 "LockStaircase$Weaving" "bestMask" "I" ∈ lk_AW := lk_in1 (List.mem_of_getElem? (i := 239) rfl) rfl
theorem lX8_68 : Cond.methodLink RX8 68 yX0_reset ∈ lk_AW := lk_in2 (List.mem_of_getElem? (i := 11) rfl) rfl
theorem fX8_14 : Cond.fieldLink RX8 14 "LockStaircase" "canal" "LLockStaircase$Canal;" ∈ lk_AW := lk_in2 (List.mem_of_getElem? (i := 15) rfl) rfl
theorem fX8_21 : Cond.fieldLink RX8 21 "LockStaircase" "fleet" "LLockStaircase$Fleet;" ∈ lk_AW := lk_in2 (List.mem_of_getElem? (i := 16) rfl) rfl
theorem fX8_28 : Cond.fieldLink RX8 28 "LockStaircase" "tape" "LLockStaircase$Tape;" ∈ lk_AW := lk_in2 (List.mem_of_getElem? (i := 17) rfl) rfl
theorem fX8_347 : Cond.fieldLink RX8 347 "LockStaircase" "accountNow" "J" ∈ lk_AW := lk_in2 (List.mem_of_getElem? (i := 18) rfl) rfl
theorem fX8_32 : Cond.fieldLink RX8 32 "LockStaircase" "imageCanal" "LLockStaircase$Canal;" ∈ lk_AW := lk_in2 (List.mem_of_getElem? (i := 19) rfl) rfl
theorem fX8_35 : Cond.fieldLink RX8 35 "LockStaircase" "imageFleet" "LLockStaircase$Fleet;" ∈ lk_AW := lk_in2 (List.mem_of_getElem? (i := 20) rfl) rfl
theorem fX8_351 : Cond.fieldLink RX8 351 "LockStaircase" "imageAccount" "J" ∈ lk_AW := lk_in2 (List.mem_of_getElem? (i := 21) rfl) rfl
theorem fX8_354 : Cond.fieldLink RX8 354 "LockStaircase" "imageTaken" "Z" ∈ lk_AW := lk_in2 (List.mem_of_getElem? (i := 22) rfl) rfl
theorem fX8_38 : Cond.fieldLink RX8 38 "LockStaircase" "thought" "LLockStaircase$Canal;" ∈ lk_AW := lk_in2 (List.mem_of_getElem? (i := 23) rfl) rfl
theorem fX8_41 : Cond.fieldLink RX8 41 "LockStaircase" "thoughtFleet" "LLockStaircase$Fleet;" ∈ lk_AW := lk_in2 (List.mem_of_getElem? (i := 24) rfl) rfl
theorem fX8_47 : Cond.fieldLink RX8 47 "LockStaircase" "below" "LLockStaircase$Line;" ∈ lk_AW := lk_in2 (List.mem_of_getElem? (i := 25) rfl) rfl
theorem fX8_51 : Cond.fieldLink RX8 51 "LockStaircase" "above" "LLockStaircase$Line;" ∈ lk_AW := lk_in2 (List.mem_of_getElem? (i := 26) rfl) rfl
theorem fX8_57 : Cond.fieldLink RX8 57 "LockStaircase" "ruleRun" "LLockStaircase$RuleRun;" ∈ lk_AW := lk_in2 (List.mem_of_getElem? (i := 27) rfl) rfl
theorem fX8_64 : Cond.fieldLink RX8 64 "LockStaircase" "weaving" "LLockStaircase$Weaving;" ∈ lk_AW := lk_in2 (List.mem_of_getElem? (i := 28) rfl) rfl
theorem lL_13 : Cond.methodLink RL 13 yX8_locks ∈ lk_AW := lk_in2 (List.mem_of_getElem? (i := 58) rfl) rfl
theorem lL_18 : Cond.methodLink RL 18 yX8_lock ∈ lk_AW := lk_in2 (List.mem_of_getElem? (i := 62) rfl) rfl
theorem lX8_79 : Cond.methodLink RX8 79 yX0_hasLock ∈ lk_AW := lk_in2 (List.mem_of_getElem? (i := 66) rfl) rfl
theorem lX8_83 : Cond.methodLink RX8 83 yX8_isLockSetting ∈ lk_AW := lk_in2 (List.mem_of_getElem? (i := 70) rfl) rfl
theorem lX8_87 : Cond.methodLink RX8 87 yX0_isAtRest ∈ lk_AW := lk_in2 (List.mem_of_getElem? (i := 73) rfl) rfl
theorem lX8_90 : Cond.methodLink RX8 90 yX0_lockNumber ∈ lk_AW := lk_in2 (List.mem_of_getElem? (i := 77) rfl) rfl
theorem lX0_72 : Cond.methodLink RX0 72 yX0_share ∈ lk_AW := lk_in2 (List.mem_of_getElem? (i := 81) rfl) rfl
theorem lL_23 : Cond.methodLink RL 23 yX8_ofLock ∈ lk_AW := lk_in2 (List.mem_of_getElem? (i := 85) rfl) rfl
theorem lL_28 : Cond.methodLink RL 28 yX8_reach ∈ lk_AW := lk_in2 (List.mem_of_getElem? (i := 89) rfl) rfl
theorem lX8_101 : Cond.methodLink RX8 101 yX0_hasReach ∈ lk_AW := lk_in2 (List.mem_of_getElem? (i := 93) rfl) rfl
theorem lX8_104 : Cond.methodLink RX8 104 yX8_isReachSetting ∈ lk_AW := lk_in2 (List.mem_of_getElem? (i := 97) rfl) rfl
theorem lX8_116 : Cond.methodLink RX8 116 yX0_reachNumber ∈ lk_AW := lk_in2 (List.mem_of_getElem? (i := 100) rfl) rfl
theorem lX8_119 : Cond.methodLink RX8 119 yX0_setReach ∈ lk_AW := lk_in2 (List.mem_of_getElem? (i := 104) rfl) rfl
theorem lL_32 : Cond.methodLink RL 32 yX8_ofReach ∈ lk_AW := lk_in2 (List.mem_of_getElem? (i := 108) rfl) rfl
theorem lX8_123 : Cond.methodLink RX8 123 yX2_countIn ∈ lk_AW := lk_in2 (List.mem_of_getElem? (i := 112) rfl) rfl
theorem lL_36 : Cond.methodLink RL 36 yX8_feeds ∈ lk_AW := lk_in2 (List.mem_of_getElem? (i := 116) rfl) rfl
theorem lL_40 : Cond.methodLink RL 40 yX8_feed ∈ lk_AW := lk_in2 (List.mem_of_getElem? (i := 120) rfl) rfl
theorem lX8_130 : Cond.methodLink RX8 130 yX6_append ∈ lk_AW := lk_in2 (List.mem_of_getElem? (i := 124) rfl) rfl
theorem lL_44 : Cond.methodLink RL 44 yX8_boats ∈ lk_AW := lk_in2 (List.mem_of_getElem? (i := 128) rfl) rfl
theorem lX8_136 : Cond.methodLink RX8 136 yX8_readBoats ∈ lk_AW := lk_in2 (List.mem_of_getElem? (i := 132) rfl) rfl
theorem lX8_140 : Cond.methodLink RX8 140 yX2_copyFrom ∈ lk_AW := lk_in2 (List.mem_of_getElem? (i := 136) rfl) rfl
theorem lX8_147 : Cond.methodLink RX8 147 yX6_readBoat ∈ lk_AW := lk_in2 (List.mem_of_getElem? (i := 143) rfl) rfl
theorem lX6_20 : Cond.methodLink RX6 20 yX6_readName ∈ lk_AW := lk_in2 (List.mem_of_getElem? (i := 147) rfl) rfl
theorem lX6_44 : Cond.methodLink RX6 44 yX6_current ∈ lk_AW := lk_in2 (List.mem_of_getElem? (i := 151) rfl) rfl
theorem lX6_27 : Cond.methodLink RX6 27 yX6_readWay ∈ lk_AW := lk_in2 (List.mem_of_getElem? (i := 155) rfl) rfl
theorem lX6_31 : Cond.methodLink RX6 31 yX6_readFigure ∈ lk_AW := lk_in2 (List.mem_of_getElem? (i := 159) rfl) rfl
theorem lX8_150 : Cond.methodLink RX8 150 yX2_put ∈ lk_AW := lk_in2 (List.mem_of_getElem? (i := 163) rfl) rfl
theorem lX2_42 : Cond.methodLink RX2 42 yX2_placeFor ∈ lk_AW := lk_in2 (List.mem_of_getElem? (i := 167) rfl) rfl
theorem lX2_55 : Cond.methodLink RX2 55 yX2_copyRow ∈ lk_AW := lk_in2 (List.mem_of_getElem? (i := 171) rfl) rfl
theorem lX8_154 : Cond.methodLink RX8 154 yX6_isAtEnd ∈ lk_AW := lk_in2 (List.mem_of_getElem? (i := 175) rfl) rfl
theorem lX8_158 : Cond.methodLink RX8 158 yX8_takeFleetInThought ∈ lk_AW := lk_in2 (List.mem_of_getElem? (i := 179) rfl) rfl
theorem lX8_161 : Cond.methodLink RX8 161 yX6_readComma ∈ lk_AW := lk_in2 (List.mem_of_getElem? (i := 183) rfl) rfl
theorem lL_49 : Cond.methodLink RL 49 yX8_boat ∈ lk_AW := lk_in2 (List.mem_of_getElem? (i := 187) rfl) rfl
theorem lX8_164 : Cond.methodLink RX8 164 yX2_has ∈ lk_AW := lk_in2 (List.mem_of_getElem? (i := 191) rfl) rfl
theorem lX8_167 : Cond.methodLink RX8 167 yX2_number ∈ lk_AW := lk_in2 (List.mem_of_getElem? (i := 195) rfl) rfl
theorem lX2_63 : Cond.methodLink RX2 63 yX2_letterCount ∈ lk_AW := lk_in2 (List.mem_of_getElem? (i := 199) rfl) rfl
theorem lX2_66 : Cond.methodLink RX2 66 yX2_letter ∈ lk_AW := lk_in2 (List.mem_of_getElem? (i := 203) rfl) rfl
theorem lX2_59 : Cond.methodLink RX2 59 yX2_has ∈ lk_AW := lk_in2 (List.mem_of_getElem? (i := 207) rfl) rfl
theorem lX8_170 : Cond.methodLink RX8 170 yX2_letter ∈ lk_AW := lk_in2 (List.mem_of_getElem? (i := 208) rfl) rfl
theorem lL_53 : Cond.methodLink RL 53 yX8_find ∈ lk_AW := lk_in2 (List.mem_of_getElem? (i := 209) rfl) rfl
theorem lX8_173 : Cond.methodLink RX8 173 yX6_readName ∈ lk_AW := lk_in2 (List.mem_of_getElem? (i := 213) rfl) rfl
theorem lX8_176 : Cond.methodLink RX8 176 yX2_numberOf ∈ lk_AW := lk_in2 (List.mem_of_getElem? (i := 214) rfl) rfl
theorem lL_57 : Cond.methodLink RL 57 yX8_leaves ∈ lk_AW := lk_in2 (List.mem_of_getElem? (i := 218) rfl) rfl
theorem lX8_179 : Cond.methodLink RX8 179 yX2_remove ∈ lk_AW := lk_in2 (List.mem_of_getElem? (i := 222) rfl) rfl
theorem lL_61 : Cond.methodLink RL 61 yX8_about ∈ lk_AW := lk_in2 (List.mem_of_getElem? (i := 226) rfl) rfl
theorem lL_65 : Cond.methodLink RL 65 yX8_pass ∈ lk_AW := lk_in2 (List.mem_of_getElem? (i := 230) rfl) rfl
theorem kX8_186 : Cond.constant RX8 186 (-2000000) ∈ lk_AW := lk_in2 (List.mem_of_getElem? (i := 234) rfl) rfl
theorem lX8_190 : Cond.methodLink RX8 190 yX0_lockFrom ∈ lk_AW := lk_in2 (List.mem_of_getElem? (i := 235) rfl) rfl
theorem kX8_194 : Cond.constant RX8 194 (-2000001) ∈ lk_AW := lk_in2 (List.mem_of_getElem? (i := 238) rfl) rfl
theorem lX8_198 : Cond.methodLink RX8 198 yX0_passage ∈ lk_AW := lk_in2 (List.mem_of_getElem? (i := 239) rfl) rfl
theorem lX0_68 : Cond.methodLink RX0 68 yX0_hasLock ∈ lk_AW := lk_in3 (List.mem_of_getElem? (i := 3) rfl) rfl
theorem kX0_76 : Cond.constant RX0 76 (-2000002) ∈ lk_AW := lk_in3 (List.mem_of_getElem? (i := 4) rfl) rfl
theorem lX0_77 : Cond.methodLink RX0 77 yX0_empties ∈ lk_AW := lk_in3 (List.mem_of_getElem? (i := 5) rfl) rfl
theorem lX0_91 : Cond.methodLink RX0 91 yX0_isBarred ∈ lk_AW := lk_in3 (List.mem_of_getElem? (i := 9) rfl) rfl
theorem lX0_80 : Cond.methodLink RX0 80 yX0_fills ∈ lk_AW := lk_in3 (List.mem_of_getElem? (i := 13) rfl) rfl
theorem lX0_83 : Cond.methodLink RX0 83 yX0_swaps ∈ lk_AW := lk_in3 (List.mem_of_getElem? (i := 17) rfl) rfl
theorem lX0_87 : Cond.methodLink RX0 87 yX5_add ∈ lk_AW := lk_in3 (List.mem_of_getElem? (i := 21) rfl) rfl
theorem kX8_202 : Cond.constant RX8 202 (-2000002) ∈ lk_AW := lk_in3 (List.mem_of_getElem? (i := 25) rfl) rfl
theorem lX8_203 : Cond.methodLink RX8 203 yX2_moveOn ∈ lk_AW := lk_in3 (List.mem_of_getElem? (i := 26) rfl) rfl
theorem lL_69 : Cond.methodLink RL 69 yX8_through ∈ lk_AW := lk_in3 (List.mem_of_getElem? (i := 30) rfl) rfl
theorem lX8_207 : Cond.methodLink RX8 207 yX0_travel ∈ lk_AW := lk_in3 (List.mem_of_getElem? (i := 34) rfl) rfl
theorem lX0_111 : Cond.methodLink RX0 111 yX0_lockFrom ∈ lk_AW := lk_in3 (List.mem_of_getElem? (i := 38) rfl) rfl
theorem lX0_115 : Cond.methodLink RX0 115 yX0_passage ∈ lk_AW := lk_in3 (List.mem_of_getElem? (i := 39) rfl) rfl
theorem lL_73 : Cond.methodLink RL 73 yX8_costs ∈ lk_AW := lk_in3 (List.mem_of_getElem? (i := 40) rfl) rfl
theorem lX8_210 : Cond.methodLink RX8 210 yX0_copyFrom ∈ lk_AW := lk_in3 (List.mem_of_getElem? (i := 44) rfl) rfl
theorem lX0_64 : Cond.methodLink RX0 64 yX5_copyFrom ∈ lk_AW := lk_in3 (List.mem_of_getElem? (i := 49) rfl) rfl
theorem lX8_213 : Cond.methodLink RX8 213 yX0_summitWater ∈ lk_AW := lk_in3 (List.mem_of_getElem? (i := 54) rfl) rfl
theorem lL_77 : Cond.methodLink RL 77 yX8_why ∈ lk_AW := lk_in3 (List.mem_of_getElem? (i := 58) rfl) rfl
theorem lX8_220 : Cond.methodLink RX8 220 yX1_number ∈ lk_AW := lk_in3 (List.mem_of_getElem? (i := 62) rfl) rfl
theorem lL_81 : Cond.methodLink RL 81 yX8_queue ∈ lk_AW := lk_in3 (List.mem_of_getElem? (i := 66) rfl) rfl
theorem lX8_224 : Cond.methodLink RX8 224 yX8_lineUp ∈ lk_AW := lk_in3 (List.mem_of_getElem? (i := 70) rfl) rfl
theorem lX8_231 : Cond.methodLink RX8 231 yX3_gather ∈ lk_AW := lk_in3 (List.mem_of_getElem? (i := 74) rfl) rfl
theorem lX3_29 : Cond.methodLink RX3 29 yX3_join ∈ lk_AW := lk_in3 (List.mem_of_getElem? (i := 78) rfl) rfl
theorem lX3_33 : Cond.methodLink RX3 33 yX2_rankOf ∈ lk_AW := lk_in3 (List.mem_of_getElem? (i := 82) rfl) rfl
theorem lX8_228 : Cond.methodLink RX8 228 yX3_boatAt ∈ lk_AW := lk_in3 (List.mem_of_getElem? (i := 86) rfl) rfl
theorem lL_85 : Cond.methodLink RL 85 yX8_orders ∈ lk_AW := lk_in3 (List.mem_of_getElem? (i := 90) rfl) rfl
theorem lX8_235 : Cond.methodLink RX8 235 yX8_weaveOrders ∈ lk_AW := lk_in3 (List.mem_of_getElem? (i := 94) rfl) rfl
theorem lX8_241 : Cond.methodLink RX8 241 yX7_begin ∈ lk_AW := lk_in3 (List.mem_of_getElem? (i := 98) rfl) rfl
theorem lX7_17 : Cond.methodLink RX7 17 yJ9_min_7cf53 ∈ lk_AW := lk_in3 (List.mem_of_getElem? (i := 102) rfl) rfl
theorem lX8_248 : Cond.methodLink RX8 248 yX7_isOrder ∈ lk_AW := lk_in3 (List.mem_of_getElem? (i := 105) rfl) rfl
theorem lX7_38 : Cond.methodLink RX7 38 yJ6_bitCount_0f7a4 ∈ lk_AW := lk_in3 (List.mem_of_getElem? (i := 109) rfl) rfl
theorem kJ6_265 : Cond.constant RJ6 265 (1431655765) ∈ lk_AW := lk_in3 (List.mem_of_getElem? (i := 112) rfl) rfl
theorem kJ6_266 : Cond.constant RJ6 266 (858993459) ∈ lk_AW := lk_in3 (List.mem_of_getElem? (i := 113) rfl) rfl
theorem kJ6_267 : Cond.constant RJ6 267 (252645135) ∈ lk_AW := lk_in3 (List.mem_of_getElem? (i := 114) rfl) rfl
theorem lX8_251 : Cond.methodLink RX8 251 yX0_copyLockFrom ∈ lk_AW := lk_in3 (List.mem_of_getElem? (i := 115) rfl) rfl
theorem lX8_255 : Cond.methodLink RX8 255 yX8_spentByOrder ∈ lk_AW := lk_in3 (List.mem_of_getElem? (i := 119) rfl) rfl
theorem lX8_261 : Cond.methodLink RX8 261 yX7_isFromBelow ∈ lk_AW := lk_in3 (List.mem_of_getElem? (i := 123) rfl) rfl
theorem lX8_264 : Cond.methodLink RX8 264 yX2_sizeOf ∈ lk_AW := lk_in3 (List.mem_of_getElem? (i := 127) rfl) rfl
theorem lX8_258 : Cond.methodLink RX8 258 yX7_weigh ∈ lk_AW := lk_in3 (List.mem_of_getElem? (i := 131) rfl) rfl
theorem kX7_44 : Cond.constant RX7 44 (-2000002) ∈ lk_AW := lk_in3 (List.mem_of_getElem? (i := 135) rfl) rfl
theorem lL_89 : Cond.methodLink RL 89 yX8_best ∈ lk_AW := lk_in3 (List.mem_of_getElem? (i := 136) rfl) rfl
theorem lX8_270 : Cond.methodLink RX8 270 yX8_boatOfBest ∈ lk_AW := lk_in3 (List.mem_of_getElem? (i := 140) rfl) rfl
theorem lL_93 : Cond.methodLink RL 93 yX8_ruled ∈ lk_AW := lk_in3 (List.mem_of_getElem? (i := 144) rfl) rfl
theorem lX8_276 : Cond.methodLink RX8 276 yX8_isRule ∈ lk_AW := lk_in3 (List.mem_of_getElem? (i := 148) rfl) rfl
theorem lX8_279 : Cond.methodLink RX8 279 yX8_runInThought ∈ lk_AW := lk_in3 (List.mem_of_getElem? (i := 151) rfl) rfl
theorem lX8_291 : Cond.methodLink RX8 291 yX4_go ∈ lk_AW := lk_in3 (List.mem_of_getElem? (i := 155) rfl) rfl
theorem lX4_26 : Cond.methodLink RX4 26 yX0_hasLock ∈ lk_AW := lk_in3 (List.mem_of_getElem? (i := 159) rfl) rfl
theorem lX4_36 : Cond.methodLink RX4 36 yX4_isFromBelowNext ∈ lk_AW := lk_in3 (List.mem_of_getElem? (i := 160) rfl) rfl
theorem lX4_40 : Cond.methodLink RX4 40 yX3_boatAt ∈ lk_AW := lk_in3 (List.mem_of_getElem? (i := 164) rfl) rfl
theorem lX4_54 : Cond.methodLink RX4 54 yX4_isAhead ∈ lk_AW := lk_in3 (List.mem_of_getElem? (i := 165) rfl) rfl
theorem lX4_58 : Cond.methodLink RX4 58 yX2_rankOf ∈ lk_AW := lk_in3 (List.mem_of_getElem? (i := 168) rfl) rfl
theorem lX4_44 : Cond.methodLink RX4 44 yX2_sizeOf ∈ lk_AW := lk_in3 (List.mem_of_getElem? (i := 169) rfl) rfl
theorem lX4_49 : Cond.methodLink RX4 49 yX0_passage ∈ lk_AW := lk_in3 (List.mem_of_getElem? (i := 170) rfl) rfl
theorem kX4_53 : Cond.constant RX4 53 (-2000002) ∈ lk_AW := lk_in3 (List.mem_of_getElem? (i := 171) rfl) rfl
theorem lX8_285 : Cond.methodLink RX8 285 yX4_done ∈ lk_AW := lk_in3 (List.mem_of_getElem? (i := 172) rfl) rfl
theorem lL_97 : Cond.methodLink RL 97 yX8_run ∈ lk_AW := lk_in3 (List.mem_of_getElem? (i := 176) rfl) rfl
theorem lX8_298 : Cond.methodLink RX8 298 yX8_moveOnFirst ∈ lk_AW := lk_in3 (List.mem_of_getElem? (i := 180) rfl) rfl
theorem lL_101 : Cond.methodLink RL 101 yX8_keeper ∈ lk_AW := lk_in3 (List.mem_of_getElem? (i := 184) rfl) rfl
theorem lL_105 : Cond.methodLink RL 105 yX8_day ∈ lk_AW := lk_in3 (List.mem_of_getElem? (i := 188) rfl) rfl
theorem lX8_305 : Cond.methodLink RX8 305 yX8_isTraffic ∈ lk_AW := lk_in3 (List.mem_of_getElem? (i := 192) rfl) rfl
theorem lX8_308 : Cond.methodLink RX8 308 yX0_wholeDay ∈ lk_AW := lk_in3 (List.mem_of_getElem? (i := 195) rfl) rfl
theorem lX0_122 : Cond.methodLink RX0 122 yX0_loseAndGain ∈ lk_AW := lk_in3 (List.mem_of_getElem? (i := 199) rfl) rfl
theorem lX0_128 : Cond.methodLink RX0 128 yJ9_max_7cf53 ∈ lk_AW := lk_in3 (List.mem_of_getElem? (i := 203) rfl) rfl
theorem lX0_134 : Cond.methodLink RX0 134 yJ9_min_7cf53 ∈ lk_AW := lk_in3 (List.mem_of_getElem? (i := 206) rfl) rfl
theorem lX0_125 : Cond.methodLink RX0 125 yX0_travel ∈ lk_AW := lk_in3 (List.mem_of_getElem? (i := 207) rfl) rfl
theorem lL_109 : Cond.methodLink RL 109 yX8_dry ∈ lk_AW := lk_in3 (List.mem_of_getElem? (i := 208) rfl) rfl
theorem lL_113 : Cond.methodLink RL 113 yX8_pond ∈ lk_AW := lk_in3 (List.mem_of_getElem? (i := 212) rfl) rfl
theorem lX8_318 : Cond.methodLink RX8 318 yX8_summitInThought ∈ lk_AW := lk_in3 (List.mem_of_getElem? (i := 216) rfl) rfl
theorem lL_117 : Cond.methodLink RL 117 yX8_water ∈ lk_AW := lk_in3 (List.mem_of_getElem? (i := 220) rfl) rfl
theorem lX8_322 : Cond.methodLink RX8 322 yX0_allWater ∈ lk_AW := lk_in3 (List.mem_of_getElem? (i := 224) rfl) rfl
theorem lL_121 : Cond.methodLink RL 121 yX8_levels ∈ lk_AW := lk_in3 (List.mem_of_getElem? (i := 228) rfl) rfl
theorem lX8_325 : Cond.methodLink RX8 325 yX0_leastLevelOver ∈ lk_AW := lk_in3 (List.mem_of_getElem? (i := 232) rfl) rfl
theorem lL_125 : Cond.methodLink RL 125 yX8_tally ∈ lk_AW := lk_in3 (List.mem_of_getElem? (i := 236) rfl) rfl
theorem lX8_332 : Cond.methodLink RX8 332 yX5_upTo ∈ lk_AW := lk_in4 (List.mem_of_getElem? (i := 0) rfl) rfl
theorem lX8_337 : Cond.methodLink RX8 337 yX5_unlike ∈ lk_AW := lk_in4 (List.mem_of_getElem? (i := 4) rfl) rfl
theorem lX8_340 : Cond.methodLink RX8 340 yX5_row ∈ lk_AW := lk_in4 (List.mem_of_getElem? (i := 8) rfl) rfl
theorem kX5_21 : Cond.constant RX5 21 (-2000001) ∈ lk_AW := lk_in4 (List.mem_of_getElem? (i := 12) rfl) rfl
theorem lL_131 : Cond.methodLink RL 131 yX8_pays ∈ lk_AW := lk_in4 (List.mem_of_getElem? (i := 13) rfl) rfl
theorem kX8_343 : Cond.constantLong RX8 343 (-1) ∈ lk_AW := lk_in4 (List.mem_of_getElem? (i := 17) rfl) rfl
theorem kX8_345 : Cond.constantLong RX8 345 (-9223372036854775808) ∈ lk_AW := lk_in4 (List.mem_of_getElem? (i := 18) rfl) rfl
theorem lL_136 : Cond.methodLink RL 136 yX8_account ∈ lk_AW := lk_in4 (List.mem_of_getElem? (i := 19) rfl) rfl
theorem lL_141 : Cond.methodLink RL 141 yX8_image ∈ lk_AW := lk_in4 (List.mem_of_getElem? (i := 23) rfl) rfl
theorem lL_145 : Cond.methodLink RL 145 yX8_undo ∈ lk_AW := lk_in4 (List.mem_of_getElem? (i := 27) rfl) rfl
theorem lL_149 : Cond.methodLink RL 149 yX8_count ∈ lk_AW := lk_in4 (List.mem_of_getElem? (i := 31) rfl) rfl
theorem lX8_357 : Cond.methodLink RX8 357 yX0_fullLocks ∈ lk_AW := lk_in4 (List.mem_of_getElem? (i := 35) rfl) rfl
theorem lX9_42 : Cond.methodLink RX9 42 yX9_begins ∈ lk_AW := lk_in4 (List.mem_of_getElem? (i := 45) rfl) rfl
theorem fX9_9 : Cond.fieldLink RX9 9 "LockStaircaseModel" "now" "[I" ∈ lk_AW := lk_in4 (List.mem_of_getElem? (i := 49) rfl) rfl
theorem fX9_15 : Cond.fieldLink RX9 15 "LockStaircaseModel" "old" "[I" ∈ lk_AW := lk_in4 (List.mem_of_getElem? (i := 50) rfl) rfl
theorem fX9_18 : Cond.fieldLink RX9 18 "LockStaircaseModel" "ahead" "[I" ∈ lk_AW := lk_in4 (List.mem_of_getElem? (i := 51) rfl) rfl
theorem fX9_241 : Cond.fieldLink RX9 241 "LockStaircaseModel" "imaged" "Z" ∈ lk_AW := lk_in4 (List.mem_of_getElem? (i := 52) rfl) rfl
theorem fX9_237 : Cond.fieldLink RX9 237 "LockStaircaseModel" "account" "J" ∈ lk_AW := lk_in4 (List.mem_of_getElem? (i := 53) rfl) rfl
theorem fX9_244 : Cond.fieldLink RX9 244 "LockStaircaseModel" "oldAccount" "J" ∈ lk_AW := lk_in4 (List.mem_of_getElem? (i := 54) rfl) rfl
theorem fX9_137 : Cond.fieldLink RX9 137 "LockStaircaseModel" "spent" "I" ∈ lk_AW := lk_in4 (List.mem_of_getElem? (i := 55) rfl) rfl
theorem fX9_118 : Cond.fieldLink RX9 118 "LockStaircaseModel" "step" "I" ∈ lk_AW := lk_in4 (List.mem_of_getElem? (i := 56) rfl) rfl
theorem fX9_121 : Cond.fieldLink RX9 121 "LockStaircaseModel" "at" "I" ∈ lk_AW := lk_in4 (List.mem_of_getElem? (i := 57) rfl) rfl
theorem fX9_124 : Cond.fieldLink RX9 124 "LockStaircaseModel" "side" "I" ∈ lk_AW := lk_in4 (List.mem_of_getElem? (i := 58) rfl) rfl
theorem fX9_144 : Cond.fieldLink RX9 144 "LockStaircaseModel" "wasBarred" "Z" ∈ lk_AW := lk_in4 (List.mem_of_getElem? (i := 59) rfl) rfl
theorem fX9_21 : Cond.fieldLink RX9 21 "LockStaircaseModel" "cause" "[I" ∈ lk_AW := lk_in4 (List.mem_of_getElem? (i := 60) rfl) rfl
theorem fX9_65 : Cond.fieldLink RX9 65 "LockStaircaseModel" "taped" "I" ∈ lk_AW := lk_in4 (List.mem_of_getElem? (i := 61) rfl) rfl
theorem fX9_24 : Cond.fieldLink RX9 24 "LockStaircaseModel" "tape" "[I" ∈ lk_AW := lk_in4 (List.mem_of_getElem? (i := 62) rfl) rfl
theorem fX9_72 : Cond.fieldLink RX9 72 "LockStaircaseModel" "place" "I" ∈ lk_AW := lk_in4 (List.mem_of_getElem? (i := 63) rfl) rfl
theorem fX9_69 : Cond.fieldLink RX9 69 "LockStaircaseModel" "fault" "I" ∈ lk_AW := lk_in4 (List.mem_of_getElem? (i := 64) rfl) rfl
theorem fX9_27 : Cond.fieldLink RX9 27 "LockStaircaseModel" "read" "[I" ∈ lk_AW := lk_in4 (List.mem_of_getElem? (i := 65) rfl) rfl
theorem fX9_82 : Cond.fieldLink RX9 82 "LockStaircaseModel" "told" "I" ∈ lk_AW := lk_in4 (List.mem_of_getElem? (i := 66) rfl) rfl
theorem fX9_168 : Cond.fieldLink RX9 168 "LockStaircaseModel" "below" "I" ∈ lk_AW := lk_in4 (List.mem_of_getElem? (i := 67) rfl) rfl
theorem fX9_171 : Cond.fieldLink RX9 171 "LockStaircaseModel" "above" "I" ∈ lk_AW := lk_in4 (List.mem_of_getElem? (i := 68) rfl) rfl
theorem fX9_30 : Cond.fieldLink RX9 30 "LockStaircaseModel" "ones" "[I" ∈ lk_AW := lk_in4 (List.mem_of_getElem? (i := 69) rfl) rfl
theorem fX9_33 : Cond.fieldLink RX9 33 "LockStaircaseModel" "others" "[I" ∈ lk_AW := lk_in4 (List.mem_of_getElem? (i := 70) rfl) rfl
theorem fX9_196 : Cond.fieldLink RX9 196 "LockStaircaseModel" "done" "I" ∈ lk_AW := lk_in4 (List.mem_of_getElem? (i := 71) rfl) rfl
theorem fX9_199 : Cond.fieldLink RX9 199 "LockStaircaseModel" "sum" "I" ∈ lk_AW := lk_in4 (List.mem_of_getElem? (i := 72) rfl) rfl
theorem fX9_209 : Cond.fieldLink RX9 209 "LockStaircaseModel" "ended" "I" ∈ lk_AW := lk_in4 (List.mem_of_getElem? (i := 73) rfl) rfl
theorem fX9_182 : Cond.fieldLink RX9 182 "LockStaircaseModel" "good" "I" ∈ lk_AW := lk_in4 (List.mem_of_getElem? (i := 74) rfl) rfl
theorem fX9_185 : Cond.fieldLink RX9 185 "LockStaircaseModel" "best" "I" ∈ lk_AW := lk_in4 (List.mem_of_getElem? (i := 75) rfl) rfl
theorem fX9_36 : Cond.fieldLink RX9 36 "LockStaircaseModel" "row" "[I" ∈ lk_AW := lk_in4 (List.mem_of_getElem? (i := 76) rfl) rfl
theorem fX9_39 : Cond.fieldLink RX9 39 "LockStaircaseModel" "bestRow" "[I" ∈ lk_AW := lk_in4 (List.mem_of_getElem? (i := 77) rfl) rfl
theorem lL_17 : Cond.methodLink RL 17 yX9_locks ∈ lk_AW := lk_in4 (List.mem_of_getElem? (i := 137) rfl) rfl
theorem lX9_46 : Cond.methodLink RX9 46 yX9_within ∈ lk_AW := lk_in4 (List.mem_of_getElem? (i := 141) rfl) rfl
theorem lL_22 : Cond.methodLink RL 22 yX9_lock ∈ lk_AW := lk_in4 (List.mem_of_getElem? (i := 144) rfl) rfl
theorem lX9_50 : Cond.methodLink RX9 50 yX9_isLock ∈ lk_AW := lk_in4 (List.mem_of_getElem? (i := 148) rfl) rfl
theorem lX9_54 : Cond.methodLink RX9 54 yX9_becomes ∈ lk_AW := lk_in4 (List.mem_of_getElem? (i := 152) rfl) rfl
theorem lL_27 : Cond.methodLink RL 27 yX9_ofLock ∈ lk_AW := lk_in4 (List.mem_of_getElem? (i := 156) rfl) rfl
theorem lX9_58 : Cond.methodLink RX9 58 yX9_share ∈ lk_AW := lk_in4 (List.mem_of_getElem? (i := 160) rfl) rfl
theorem lL_31 : Cond.methodLink RL 31 yX9_reach ∈ lk_AW := lk_in4 (List.mem_of_getElem? (i := 164) rfl) rfl
theorem lX9_62 : Cond.methodLink RX9 62 yX9_isReach ∈ lk_AW := lk_in4 (List.mem_of_getElem? (i := 168) rfl) rfl
theorem lL_35 : Cond.methodLink RL 35 yX9_ofReach ∈ lk_AW := lk_in4 (List.mem_of_getElem? (i := 172) rfl) rfl
theorem lL_39 : Cond.methodLink RL 39 yX9_feeds ∈ lk_AW := lk_in4 (List.mem_of_getElem? (i := 176) rfl) rfl
theorem lL_43 : Cond.methodLink RL 43 yX9_feed ∈ lk_AW := lk_in4 (List.mem_of_getElem? (i := 180) rfl) rfl
theorem lL_48 : Cond.methodLink RL 48 yX9_boats ∈ lk_AW := lk_in4 (List.mem_of_getElem? (i := 184) rfl) rfl
theorem lX9_102 : Cond.methodLink RX9 102 yX9_readsBoat ∈ lk_AW := lk_in4 (List.mem_of_getElem? (i := 188) rfl) rfl
theorem lX9_85 : Cond.methodLink RX9 85 yX9_name ∈ lk_AW := lk_in4 (List.mem_of_getElem? (i := 192) rfl) rfl
theorem lX9_75 : Cond.methodLink RX9 75 yX9_isFrom ∈ lk_AW := lk_in4 (List.mem_of_getElem? (i := 196) rfl) rfl
theorem lX9_79 : Cond.methodLink RX9 79 yX9_wrong ∈ lk_AW := lk_in4 (List.mem_of_getElem? (i := 200) rfl) rfl
theorem lX9_89 : Cond.methodLink RX9 89 yX9_figure ∈ lk_AW := lk_in4 (List.mem_of_getElem? (i := 204) rfl) rfl
theorem lX9_105 : Cond.methodLink RX9 105 yX9_pours ∈ lk_AW := lk_in4 (List.mem_of_getElem? (i := 208) rfl) rfl
theorem lX9_109 : Cond.methodLink RX9 109 yX9_comes ∈ lk_AW := lk_in4 (List.mem_of_getElem? (i := 211) rfl) rfl
theorem lX9_92 : Cond.methodLink RX9 92 yX9_where ∈ lk_AW := lk_in4 (List.mem_of_getElem? (i := 215) rfl) rfl
theorem lX9_95 : Cond.methodLink RX9 95 yX9_isThere ∈ lk_AW := lk_in4 (List.mem_of_getElem? (i := 219) rfl) rfl
theorem lX9_98 : Cond.methodLink RX9 98 yX9_shifts ∈ lk_AW := lk_in4 (List.mem_of_getElem? (i := 223) rfl) rfl
theorem lL_52 : Cond.methodLink RL 52 yX9_boat ∈ lk_AW := lk_in4 (List.mem_of_getElem? (i := 227) rfl) rfl
theorem lX9_112 : Cond.methodLink RX9 112 yX9_isBoat ∈ lk_AW := lk_in4 (List.mem_of_getElem? (i := 231) rfl) rfl
theorem lX9_115 : Cond.methodLink RX9 115 yX9_letter ∈ lk_AW := lk_in4 (List.mem_of_getElem? (i := 235) rfl) rfl
theorem lL_56 : Cond.methodLink RL 56 yX9_find ∈ lk_AW := lk_in4 (List.mem_of_getElem? (i := 238) rfl) rfl
theorem lL_60 : Cond.methodLink RL 60 yX9_leaves ∈ lk_AW := lk_in5 (List.mem_of_getElem? (i := 2) rfl) rfl
theorem lL_64 : Cond.methodLink RL 64 yX9_about ∈ lk_AW := lk_in5 (List.mem_of_getElem? (i := 6) rfl) rfl
theorem lL_68 : Cond.methodLink RL 68 yX9_pass ∈ lk_AW := lk_in5 (List.mem_of_getElem? (i := 10) rfl) rfl
theorem kX9_157 : Cond.constant RX9 157 (-2000000) ∈ lk_AW := lk_in5 (List.mem_of_getElem? (i := 14) rfl) rfl
theorem lX9_151 : Cond.methodLink RX9 151 yX9_lockOf ∈ lk_AW := lk_in5 (List.mem_of_getElem? (i := 15) rfl) rfl
theorem lX9_148 : Cond.methodLink RX9 148 yX9_isUp ∈ lk_AW := lk_in5 (List.mem_of_getElem? (i := 19) rfl) rfl
theorem kX9_158 : Cond.constant RX9 158 (-2000001) ∈ lk_AW := lk_in5 (List.mem_of_getElem? (i := 23) rfl) rfl
theorem lX9_159 : Cond.methodLink RX9 159 yX9_boatGoes ∈ lk_AW := lk_in5 (List.mem_of_getElem? (i := 24) rfl) rfl
theorem lX9_154 : Cond.methodLink RX9 154 yX9_goesTruly ∈ lk_AW := lk_in5 (List.mem_of_getElem? (i := 28) rfl) rfl
theorem lX9_140 : Cond.methodLink RX9 140 yX9_goes ∈ lk_AW := lk_in5 (List.mem_of_getElem? (i := 32) rfl) rfl
theorem lX9_131 : Cond.methodLink RX9 131 yX9_empties ∈ lk_AW := lk_in5 (List.mem_of_getElem? (i := 36) rfl) rfl
theorem lX9_127 : Cond.methodLink RX9 127 yX9_flows ∈ lk_AW := lk_in5 (List.mem_of_getElem? (i := 40) rfl) rfl
theorem lX9_134 : Cond.methodLink RX9 134 yX9_fills ∈ lk_AW := lk_in5 (List.mem_of_getElem? (i := 44) rfl) rfl
theorem kX9_163 : Cond.constant RX9 163 (-2000002) ∈ lk_AW := lk_in5 (List.mem_of_getElem? (i := 48) rfl) rfl
theorem lL_72 : Cond.methodLink RL 72 yX9_through ∈ lk_AW := lk_in5 (List.mem_of_getElem? (i := 49) rfl) rfl
theorem lL_76 : Cond.methodLink RL 76 yX9_costs ∈ lk_AW := lk_in5 (List.mem_of_getElem? (i := 53) rfl) rfl
theorem lL_80 : Cond.methodLink RL 80 yX9_why ∈ lk_AW := lk_in5 (List.mem_of_getElem? (i := 57) rfl) rfl
theorem lL_84 : Cond.methodLink RL 84 yX9_queue ∈ lk_AW := lk_in5 (List.mem_of_getElem? (i := 61) rfl) rfl
theorem lX9_174 : Cond.methodLink RX9 174 yX9_queuesOf ∈ lk_AW := lk_in5 (List.mem_of_getElem? (i := 65) rfl) rfl
theorem lX9_164 : Cond.methodLink RX9 164 yX9_queues ∈ lk_AW := lk_in5 (List.mem_of_getElem? (i := 69) rfl) rfl
theorem lL_88 : Cond.methodLink RL 88 yX9_orders ∈ lk_AW := lk_in5 (List.mem_of_getElem? (i := 73) rfl) rfl
theorem lX9_193 : Cond.methodLink RX9 193 yX9_weavesAll ∈ lk_AW := lk_in5 (List.mem_of_getElem? (i := 77) rfl) rfl
theorem kX9_192 : Cond.constant RX9 192 (1000000) ∈ lk_AW := lk_in5 (List.mem_of_getElem? (i := 81) rfl) rfl
theorem lX9_188 : Cond.methodLink RX9 188 yX9_weaves ∈ lk_AW := lk_in5 (List.mem_of_getElem? (i := 82) rfl) rfl
theorem lX9_177 : Cond.methodLink RX9 177 yJ9_min_7cf53 ∈ lk_AW := lk_in5 (List.mem_of_getElem? (i := 86) rfl) rfl
theorem lL_92 : Cond.methodLink RL 92 yX9_best ∈ lk_AW := lk_in5 (List.mem_of_getElem? (i := 87) rfl) rfl
theorem lL_96 : Cond.methodLink RL 96 yX9_ruled ∈ lk_AW := lk_in5 (List.mem_of_getElem? (i := 91) rfl) rfl
theorem lX9_205 : Cond.methodLink RX9 205 yX9_runs ∈ lk_AW := lk_in5 (List.mem_of_getElem? (i := 95) rfl) rfl
theorem lX9_202 : Cond.methodLink RX9 202 yX9_isFromBelow ∈ lk_AW := lk_in5 (List.mem_of_getElem? (i := 99) rfl) rfl
theorem lL_100 : Cond.methodLink RL 100 yX9_run ∈ lk_AW := lk_in5 (List.mem_of_getElem? (i := 103) rfl) rfl
theorem lL_104 : Cond.methodLink RL 104 yX9_keeper ∈ lk_AW := lk_in5 (List.mem_of_getElem? (i := 107) rfl) rfl
theorem lL_108 : Cond.methodLink RL 108 yX9_day ∈ lk_AW := lk_in5 (List.mem_of_getElem? (i := 111) rfl) rfl
theorem lX9_219 : Cond.methodLink RX9 219 yX9_isTraffic ∈ lk_AW := lk_in5 (List.mem_of_getElem? (i := 115) rfl) rfl
theorem lX9_222 : Cond.methodLink RX9 222 yX9_dayGoes ∈ lk_AW := lk_in5 (List.mem_of_getElem? (i := 118) rfl) rfl
theorem lX9_212 : Cond.methodLink RX9 212 yJ9_max_7cf53 ∈ lk_AW := lk_in5 (List.mem_of_getElem? (i := 122) rfl) rfl
theorem lX9_215 : Cond.methodLink RX9 215 yX9_crosses ∈ lk_AW := lk_in5 (List.mem_of_getElem? (i := 123) rfl) rfl
theorem lL_112 : Cond.methodLink RL 112 yX9_dry ∈ lk_AW := lk_in5 (List.mem_of_getElem? (i := 127) rfl) rfl
theorem lL_116 : Cond.methodLink RL 116 yX9_pond ∈ lk_AW := lk_in5 (List.mem_of_getElem? (i := 131) rfl) rfl
theorem lX9_225 : Cond.methodLink RX9 225 yX9_summit ∈ lk_AW := lk_in5 (List.mem_of_getElem? (i := 135) rfl) rfl
theorem lL_120 : Cond.methodLink RL 120 yX9_water ∈ lk_AW := lk_in5 (List.mem_of_getElem? (i := 139) rfl) rfl
theorem lL_124 : Cond.methodLink RL 124 yX9_levels ∈ lk_AW := lk_in5 (List.mem_of_getElem? (i := 143) rfl) rfl
theorem lL_128 : Cond.methodLink RL 128 yX9_tally ∈ lk_AW := lk_in5 (List.mem_of_getElem? (i := 147) rfl) rfl
theorem lL_135 : Cond.methodLink RL 135 yX9_pays ∈ lk_AW := lk_in5 (List.mem_of_getElem? (i := 151) rfl) rfl
theorem lX9_233 : Cond.methodLink RX9 233 yX9_isBeyond ∈ lk_AW := lk_in5 (List.mem_of_getElem? (i := 155) rfl) rfl
theorem kX9_229 : Cond.constantLong RX9 229 (-1) ∈ lk_AW := lk_in5 (List.mem_of_getElem? (i := 158) rfl) rfl
theorem kX9_231 : Cond.constantLong RX9 231 (-9223372036854775808) ∈ lk_AW := lk_in5 (List.mem_of_getElem? (i := 159) rfl) rfl
theorem lL_140 : Cond.methodLink RL 140 yX9_account ∈ lk_AW := lk_in5 (List.mem_of_getElem? (i := 160) rfl) rfl
theorem lL_144 : Cond.methodLink RL 144 yX9_image ∈ lk_AW := lk_in5 (List.mem_of_getElem? (i := 164) rfl) rfl
theorem lL_148 : Cond.methodLink RL 148 yX9_undo ∈ lk_AW := lk_in5 (List.mem_of_getElem? (i := 168) rfl) rfl
theorem lL_152 : Cond.methodLink RL 152 yX9_count ∈ lk_AW := lk_in5 (List.mem_of_getElem? (i := 172) rfl) rfl
theorem kL_129 : Cond.constantLong RL 129 (4294967295) ∈ lk_AW := lk_in5 (List.mem_of_getElem? (i := 176) rfl) rfl
end
section
/-! THE PURE JUDGEMENT: a world of fixed shape (19 objects and their arrays), its numbers a function; a method's walk speaks of numbers alone -/
abbrev lk_V : Type := Int32 ⊕ (Int64 ⊕ (Nat × Nat))
abbrev lk_vi (x : Int32) : lk_V := .inl x
abbrev lk_vl (x : Int64) : lk_V := .inr (.inl x)
abbrev lk_vr (o f : Nat) : lk_V := .inr (.inr (o, f))
abbrev lk_N : Type := Nat → Nat → Nat → Int32
abbrev lk_T : Type := Nat → Nat → Int64
abbrev lk_Q : Type := Option lk_V → lk_N → lk_T → Prop
abbrev lk_G : Type := (Nat → Nat → Nat) × va_G × ClassId × ClassId
def lk_c (γ : Nat → Nat → Nat) : lk_V → Value
  | .inl x => .int x
  | .inr (.inl x) => .long x
  | .inr (.inr q) => .ref (γ q.1 q.2)
def lk_cat : lk_V → Nat
  | .inr (.inl _) => 2
  | _ => 1
theorem lk_c_cat (γ : Nat → Nat → Nat) (v : lk_V) : (lk_c γ v).category = lk_cat v := by
  rcases v with x | x | q <;> rfl
/-- which class each object is of -/
def lk_kos : List Nat := [8, 9, 0, 5, 1, 0, 5, 1, 0, 5, 1, 2, 2, 2, 6, 3, 3, 4, 7]
def lk_ko (o : Nat) : Nat := lk_kos.getD o 99
/-- the fields of each class: 0 int, 1 long, 2 ints, 3 booleans, 4 object, 5 boolean; how long a row is -/
def lk_fks : List (List (Nat × Nat)) :=
  [[(0, 0), (0, 0), (2, 6), (2, 6), (2, 6), (3, 6), (2, 7), (2, 7), (2, 7), (2, 7), (4, 0), (4, 0), (5, 0)],
   [(5, 0), (0, 0), (0, 0), (0, 0), (0, 0)],
   [(2, 22), (2, 22), (2, 22), (3, 22), (2, 22), (0, 0)],
   [(2, 22), (0, 0)],
   [(0, 0), (0, 0), (0, 0)],
   [(2, 118)],
   [(2, 60), (0, 0), (0, 0), (0, 0), (5, 0), (0, 0), (0, 0), (0, 0)],
   [(0, 0), (0, 0), (0, 0), (0, 0), (0, 0)],
   [(4, 0), (4, 0), (4, 0), (1, 0), (4, 0), (4, 0), (1, 0), (5, 0), (4, 0), (4, 0), (4, 0), (4, 0), (4, 0), (4, 0)],
   [(2, 235), (2, 235), (2, 235), (5, 0), (1, 0), (1, 0), (0, 0), (0, 0), (0, 0), (0, 0), (5, 0), (2, 4), (0, 0), (2, 60), (0, 0), (0, 0), (2, 60), (0, 0), (0, 0), (0, 0), (2, 12), (2, 12), (0, 0), (0, 0), (0, 0), (0, 0), (0, 0), (2, 12), (2, 12)]]
def lk_fk (ci f : Nat) : Nat × Nat := (lk_fks.getD ci []).getD f (9, 0)
def lk_nf (ci : Nat) : Nat := (lk_fks.getD ci []).length
/-- the object that a field of an object holds -/
def lk_fo (o f : Nat) : Nat := if o = 0 then [2, 11, 14, 0, 5, 13, 0, 0, 8, 12, 15, 16, 17, 18].getD f 0 else if f = 10 then o + 1 else o + 2
def lk_rows (ci : Nat) : List Nat := (List.range (lk_nf ci)).filter (fun f => (lk_fk ci f).1 == 2 || (lk_fk ci f).1 == 3)
def lk_cells : List (Nat × Nat) := (List.range 19).flatMap fun o => (o, 0) :: (lk_rows (lk_ko o)).map (fun f => (o, f + 1))
def lk_fv (γ : Nat → Nat → Nat) (σ : lk_N) (τ : lk_T) (o f : Nat) : Value :=
  if (lk_fk (lk_ko o) f).1 = 0 ∨ (lk_fk (lk_ko o) f).1 = 5 then .int (σ o f 0) else if (lk_fk (lk_ko o) f).1 = 1 then .long (τ o f) else if (lk_fk (lk_ko o) f).1 = 4 then .ref (γ (lk_fo o f) 0) else .ref (γ o (f + 1))
def lk_e (X : lk_G) (σ : lk_N) (τ : lk_T) (q : Nat × Nat) : va_E := match q.2 with
  | 0 => .inr (lk_ko q.1, (List.range (lk_nf (lk_ko q.1))).map (lk_fv X.1 σ τ q.1))
  | f + 1 => .inl (if (lk_fk (lk_ko q.1) f).1 = 3 then X.2.2.2 else X.2.2.1, (lk_fk (lk_ko q.1) f).2, .inl (σ q.1 f))
def lk_ws (X : lk_G) (σ : lk_N) (τ : lk_T) : va_W := lk_cells.map (fun q => (X.1 q.1 q.2, lk_e X σ τ q))
def lk_up (σ : lk_N) (o f i : Nat) (v : Int32) : lk_N := fun o' f' i' => if o' = o ∧ f' = f ∧ i' = i then v else σ o' f' i'
def lk_ut (τ : lk_T) (o f : Nat) (v : Int64) : lk_T := fun o' f' => if o' = o ∧ f' = f then v else τ o' f'
def lk_rm (d : Nat) : Room := { frames := d, cells := 0, slots := 0, locals := 40 * d }
def lk_wd (M : lk_M) : List Cond := .code M.1 M.2.1 M.2.2.1 M.2.2.2 :: lk_AW
def lk_A (X : lk_G) : Nat → Prop := fun a => ∃ q ∈ lk_cells, X.1 q.1 q.2 = a
def lk_tys (X : lk_G) : List (ClassId × FieldType) := [(X.2.2.1, .int), (X.2.2.2, .boolean)]
def lk_H (X : lk_G) (σ : lk_N) (τ : lk_T) (U : State) : Prop := va_P X.2.1 vwCl (lk_ws X σ τ) U.heap ∧ va_K X.2.1 vwCl (lk_tys X) U ∧ va_D (lk_A X) (lk_ws X σ τ)
def lk_Qc (X : lk_G) (Q : lk_Q) : Array Value → State → Outcome → State → Prop := fun _ st oc t => (∃ (r : Option lk_V) (σ : lk_N) (τ : lk_T), oc = .returned (r.map (lk_c X.1)) ∧ Q r σ τ ∧ lk_H X σ τ t) ∧ va_F (lk_A X) st t
/-- a method's contract: out of these numbers, with these arguments, within d frames, it comes back with Q -/
def lk_Mt (l : Launch) (X : lk_G) (M : lk_M) (d : Nat) (args : List lk_V) (σ : lk_N) (τ : lk_T) (Q : lk_Q) : Prop :=
  Met l M.1 (lk_wd M) (lk_rm d) (va_Pc (args.map (lk_c X.1)) (lk_H X σ τ)) (lk_Qc X Q) 0 0 (lk_A X)
def lk_C (X : lk_G) (M : lk_M) (p : Program) (s : State) (m : MethodId) (args : Array Value) (meth : Method) (c : Code) : Prop :=
  p.tables.exec = Jvm.exec ∧ c.code = M.2.1 ∧ meth.sig.returnType = M.2.2.2 ∧ c.maxLocals = M.2.2.1 ∧ s.vm.findClass M.1.cls = some m.cls ∧ (∀ w ∈ lk_wd M, w.before args s = true) ∧ meth.locks = false ∧ va_K X.2.1 vwCl (lk_tys X) s
/-- at pc, with these locals and this stack and these numbers, the method comes back with Q -/
def lk_W (l : Launch) (X : lk_G) (M : lk_M) (d pc : Nat) (L : List (Nat × lk_V)) (S : List lk_V) (σ : lk_N) (τ : lk_T) (Q : lk_Q) : Prop :=
  ∀ (p : Program) (e : Env) (s : State) (m : MethodId) (args : Array Value) (below : List Frame) (meth : Method) (c : Code) (H : Heap) (locs : List Loc) (ls : Array Slot),
    lk_C X M p s m args meth c → va_P X.2.1 vwCl (lk_ws X σ τ) H → va_D (lk_A X) (lk_ws X σ τ) → va_S (lk_A X) s.heap H locs → lv_has ls M.2.2.1 (L.map (fun q => (q.1, lk_c X.1 q.2))) →
    W p l e (lk_rm d) s m args below meth c H locs 0 0 (MQ below (lk_Qc X Q) args s 0 0 (lk_A X)) (F0 m pc ls (S.map (lk_c X.1)))
/-! the world's places -/
theorem lk_cells_nodup : lk_cells.Nodup := by decide +kernel
theorem lk_at {X : lk_G} {σ : lk_N} {τ : lk_T} {o f : Nat} (h : (o, f) ∈ lk_cells) : ∃ k : Nat, lk_cells[k]? = some (o, f) ∧ (lk_ws X σ τ)[k]? = some (X.1 o f, lk_e X σ τ (o, f)) := by
  obtain ⟨k, hk⟩ := List.getElem?_of_mem h
  exact ⟨k, hk, by simp [lk_ws, hk]⟩
theorem lk_nodup_inj {α : Type} : ∀ {l : List α}, l.Nodup → ∀ {i j : Nat} {a : α}, l[i]? = some a → l[j]? = some a → i = j
  | [], _, _, _, _, h, _ => by simp at h
  | b :: t, hn, i, j, a, h1, h2 => by
    have hb := (List.nodup_cons.mp hn).1
    have ht := (List.nodup_cons.mp hn).2
    cases i with
    | zero =>
      cases j with
      | zero => rfl
      | succ j =>
        rw [List.getElem?_cons_zero] at h1
        rw [List.getElem?_cons_succ] at h2
        cases h1
        exact absurd (List.mem_of_getElem? h2) hb
    | succ i =>
      rw [List.getElem?_cons_succ] at h1
      cases j with
      | zero =>
        rw [List.getElem?_cons_zero] at h2
        cases h2
        exact absurd (List.mem_of_getElem? h1) hb
      | succ j =>
        rw [List.getElem?_cons_succ] at h2
        rw [lk_nodup_inj ht h1 h2]
theorem lk_set {X : lk_G} {σ σ' : lk_N} {τ τ' : lk_T} {o f k : Nat} (hk : lk_cells[k]? = some (o, f)) (h : ∀ q ∈ lk_cells, q ≠ (o, f) → lk_e X σ' τ' q = lk_e X σ τ q) : (lk_ws X σ τ).set k (X.1 o f, lk_e X σ' τ' (o, f)) = lk_ws X σ' τ' := by
  have hl := (List.getElem?_eq_some_iff.mp hk).1
  apply List.ext_getElem?
  intro j
  by_cases hj : j = k
  · subst hj
    rw [List.getElem?_set_self (by simpa [lk_ws] using hl)]
    simp [lk_ws, hk]
  · rw [List.getElem?_set_ne (fun z => hj z.symm)]
    simp only [lk_ws, List.getElem?_map]
    cases hq : lk_cells[j]? with
    | none => rfl
    | some q =>
      have hne : q ≠ (o, f) := by
        intro z
        subst z
        exact hj (lk_nodup_inj lk_cells_nodup hq hk)
      simp [h q (List.mem_of_getElem? hq) hne]
theorem lk_ko_lt {o ci : Nat} (h : lk_ko o = ci) (hc : ci < 10) : o < 19 := by
  rcases Nat.lt_or_ge o 19 with q | q
  · exact q
  · have : lk_ko o = 99 := by
      unfold lk_ko
      rw [List.getD_eq_getElem?_getD, List.getElem?_eq_none (show lk_kos.length ≤ o from q)]
      rfl
    omega
theorem lk_mem0 {o : Nat} (h : o < 19) : (o, 0) ∈ lk_cells := by
  have : ∀ o, o < 19 → (o, 0) ∈ lk_cells := by decide +kernel
  exact this o h
theorem lk_memR {o f : Nat} (h : o < 19) (hk : (lk_fk (lk_ko o) f).1 = 2 ∨ (lk_fk (lk_ko o) f).1 = 3) : (o, f + 1) ∈ lk_cells := by
  have hf : f < lk_nf (lk_ko o) := by
    rcases Nat.lt_or_ge f (lk_nf (lk_ko o)) with q | q
    · exact q
    · have : lk_fk (lk_ko o) f = (9, 0) := by
        unfold lk_fk
        rw [List.getD_eq_getElem?_getD, List.getElem?_eq_none q]
        rfl
      rw [this] at hk
      simp at hk
  unfold lk_cells
  refine List.mem_flatMap.mpr ⟨o, List.mem_range.mpr h, List.mem_cons_of_mem _ (List.mem_map.mpr ⟨f, ?_, rfl⟩)⟩
  unfold lk_rows
  refine List.mem_filter.mpr ⟨List.mem_range.mpr hf, ?_⟩
  rcases hk with q | q <;> simp [q]
theorem lk_mem_kind {o f : Nat} (h : (o, f + 1) ∈ lk_cells) : (lk_fk (lk_ko o) f).1 = 2 ∨ (lk_fk (lk_ko o) f).1 = 3 := by
  unfold lk_cells at h
  obtain ⟨o2, -, h2⟩ := List.mem_flatMap.mp h
  rcases List.mem_cons.mp h2 with h3 | h3
  · cases h3
  · obtain ⟨f2, h4, h5⟩ := List.mem_map.mp h3
    cases h5
    have h6 := (List.mem_filter.mp h4).2
    simpa using h6
theorem lk_D_any {X : lk_G} {σ σ' : lk_N} {τ τ' : lk_T} {A : Nat → Prop} (h : va_D A (lk_ws X σ τ)) : va_D A (lk_ws X σ' τ') := by
  have key : ∀ (k : Nat) (q : Nat × va_E), (lk_ws X σ' τ')[k]? = some q → ∃ e, (lk_ws X σ τ)[k]? = some (q.1, e) := by
    intro k q hk
    simp only [lk_ws, List.getElem?_map] at hk ⊢
    cases hc : lk_cells[k]? with
    | none => rw [hc] at hk; cases hk
    | some z => rw [hc] at hk; cases hk; exact ⟨_, rfl⟩
  refine ⟨fun i j p q hi hj hpq => ?_, fun k q hk => ?_⟩
  · obtain ⟨e1, h1⟩ := key i p hi
    obtain ⟨e2, h2⟩ := key j q hj
    exact h.1 i j _ _ h1 h2 hpq
  · obtain ⟨e1, h1⟩ := key k q hk
    exact h.2 k (q.1, e1) h1
theorem lk_up_eq (σ : lk_N) (o f i : Nat) (v : Int32) : lk_up σ o f i v o f i = v := by simp [lk_up]
theorem lk_up_ne {σ : lk_N} {o f i : Nat} {v : Int32} {o' f' i' : Nat} (h : ¬ (o' = o ∧ f' = f ∧ i' = i)) : lk_up σ o f i v o' f' i' = σ o' f' i' := by simp [lk_up, h]
theorem lk_ut_eq (τ : lk_T) (o f : Nat) (v : Int64) : lk_ut τ o f v o f = v := by simp [lk_ut]
theorem lk_ut_ne {τ : lk_T} {o f : Nat} {v : Int64} {o' f' : Nat} (h : ¬ (o' = o ∧ f' = f)) : lk_ut τ o f v o' f' = τ o' f' := by simp [lk_ut, h]
/-- a number field of an object put: what its cell becomes, and no other -/
theorem lk_e_putI {X : lk_G} {σ : lk_N} {τ : lk_T} {o f : Nat} {v : Int32} (hk : (lk_fk (lk_ko o) f).1 = 0 ∨ (lk_fk (lk_ko o) f).1 = 5) (hf : f < lk_nf (lk_ko o)) :
    (Sum.inr (lk_ko o, ((List.range (lk_nf (lk_ko o))).map (lk_fv X.1 σ τ o)).set f (.int v)) : va_E) = lk_e X (lk_up σ o f 0 v) τ (o, 0) ∧ ∀ q ∈ lk_cells, q ≠ (o, 0) → lk_e X (lk_up σ o f 0 v) τ q = lk_e X σ τ q := by
  refine ⟨?_, ?_⟩
  · show Sum.inr _ = Sum.inr _
    congr 2
    apply List.ext_getElem?
    intro j
    by_cases hj : j = f
    · subst hj
      rw [List.getElem?_set_self (by simpa using hf)]
      simp [List.getElem?_range hf, lk_fv, hk, lk_up]
    · rw [List.getElem?_set_ne (fun z => hj z.symm)]
      simp only [List.getElem?_map]
      rcases Nat.lt_or_ge j (lk_nf (lk_ko o)) with q | q
      · rw [List.getElem?_range q]
        simp [lk_fv, lk_up, hj]
      · rw [List.getElem?_eq_none (by simpa using q)]
        rfl
  · rintro ⟨o', f'⟩ hmem hne
    cases f' with
    | zero =>
      have ho : o' ≠ o := fun z => hne (by rw [z])
      show Sum.inr _ = Sum.inr _
      congr 2
      apply List.map_congr_left
      intro j _
      simp [lk_fv, lk_up, ho]
    | succ f' =>
      show Sum.inl _ = Sum.inl _
      congr 3
      congr 1
      funext i
      refine lk_up_ne ?_
      rintro ⟨h1, h2, h3⟩
      have hm := lk_mem_kind hmem
      have h1' : o' = o := h1
      rw [h1', h2] at hm
      rcases hk with a | a <;> rcases hm with b | b <;> rw [a] at b <;> cases b
/-- a long field of an object put -/
theorem lk_e_putL {X : lk_G} {σ : lk_N} {τ : lk_T} {o f : Nat} {v : Int64} (hk : (lk_fk (lk_ko o) f).1 = 1) (hf : f < lk_nf (lk_ko o)) :
    (Sum.inr (lk_ko o, ((List.range (lk_nf (lk_ko o))).map (lk_fv X.1 σ τ o)).set f (.long v)) : va_E) = lk_e X σ (lk_ut τ o f v) (o, 0) ∧ ∀ q ∈ lk_cells, q ≠ (o, 0) → lk_e X σ (lk_ut τ o f v) q = lk_e X σ τ q := by
  refine ⟨?_, ?_⟩
  · show Sum.inr _ = Sum.inr _
    congr 2
    apply List.ext_getElem?
    intro j
    by_cases hj : j = f
    · subst hj
      rw [List.getElem?_set_self (by simpa using hf)]
      simp [List.getElem?_range hf, lk_fv, hk, lk_ut]
    · rw [List.getElem?_set_ne (fun z => hj z.symm)]
      simp only [List.getElem?_map]
      rcases Nat.lt_or_ge j (lk_nf (lk_ko o)) with q | q
      · rw [List.getElem?_range q]
        simp [lk_fv, lk_ut, hj]
      · rw [List.getElem?_eq_none (by simpa using q)]
        rfl
  · rintro ⟨o', f'⟩ hmem hne
    cases f' with
    | zero =>
      have ho : o' ≠ o := fun z => hne (by rw [z])
      show Sum.inr _ = Sum.inr _
      congr 2
      apply List.map_congr_left
      intro j _
      simp [lk_fv, lk_ut, ho]
    | succ f' => rfl
/-- a row of numbers changed: what its cell becomes, and no other -/
theorem lk_e_row {X : lk_G} {σ : lk_N} {τ : lk_T} {o f : Nat} {g : Nat → Int32} {σ' : lk_N} (hσ : ∀ o' f' i', σ' o' f' i' = if o' = o ∧ f' = f then g i' else σ o' f' i') (hk : (lk_fk (lk_ko o) f).1 = 2 ∨ (lk_fk (lk_ko o) f).1 = 3) :
    (Sum.inl (if (lk_fk (lk_ko o) f).1 = 3 then X.2.2.2 else X.2.2.1, (lk_fk (lk_ko o) f).2, .inl g) : va_E) = lk_e X σ' τ (o, f + 1) ∧ ∀ q ∈ lk_cells, q ≠ (o, f + 1) → lk_e X σ' τ q = lk_e X σ τ q := by
  refine ⟨?_, ?_⟩
  · show Sum.inl _ = Sum.inl _
    congr 3
    congr 1
    funext i
    rw [hσ, if_pos ⟨rfl, rfl⟩]
  · rintro ⟨o', f'⟩ hmem hne
    cases f' with
    | zero =>
      show Sum.inr _ = Sum.inr _
      congr 2
      apply List.map_congr_left
      intro j _
      by_cases h : o' = o ∧ j = f
      · obtain ⟨h1, h2⟩ := h
        subst h1; subst h2
        have e1 : ¬ ((lk_fk (lk_ko o') j).1 = 0 ∨ (lk_fk (lk_ko o') j).1 = 5) := by omega
        simp [lk_fv, e1]
      · simp [lk_fv, hσ, h]
    | succ f' =>
      show Sum.inl _ = Sum.inl _
      congr 3
      congr 1
      funext i
      rw [hσ, if_neg]
      rintro ⟨h1, h2⟩
      have h1' : o' = o := h1
      exact hne (by rw [h1', h2])
theorem lk_up_row (σ : lk_N) (o f i : Nat) (v : Int32) : ∀ o' f' i', lk_up σ o f i v o' f' i' = if o' = o ∧ f' = f then upd (σ o f) i v i' else σ o' f' i' := by
  intro o' f' i'
  unfold lk_up upd
  by_cases h : o' = o ∧ f' = f
  · obtain ⟨h1, h2⟩ := h
    subst h1; subst h2
    by_cases h3 : i' = i <;> simp [h3]
  · rw [if_neg h, if_neg (fun z => h ⟨z.1, z.2.1⟩)]
end
section
/-! THE ROWS of the pure judgement: an instruction each, out of the kit's rows -/
def lk_T0 (ci : Nat) : u_T := match vwCl[ci]? with
  | some q => q.2.1
  | none => TX0
def lk_lk (own : String) (idx ci f : Nat) : Cond := .fieldLink own idx (lk_T0 ci f).1 (lk_T0 ci f).2.1 (lk_T0 ci f).2.2.1
theorem lk_tab : ∀ ci, ci < 10 → ∃ (C : String) (ty0 : Nat → FieldType), vwCl[ci]? = some (C, lk_T0 ci, lk_nf ci) ∧ (∀ w ∈ u_ws C (lk_T0 ci) (lk_nf ci), w ∈ lk_AW) ∧ (∀ k, k < lk_nf ci → parseFieldDescriptor (lk_T0 ci k).2.2.1 = some (ty0 k)) ∧ (∀ a, a < lk_nf ci → ∀ b, b < lk_nf ci → a ≠ b → (lk_T0 ci a).2.1 ≠ (lk_T0 ci b).2.1)
  | 0, _ => ⟨RX0, tyX0, rfl, iwX0, tyX0_ok, nmX0⟩
  | 1, _ => ⟨RX1, tyX1, rfl, iwX1, tyX1_ok, nmX1⟩
  | 2, _ => ⟨RX2, tyX2, rfl, iwX2, tyX2_ok, nmX2⟩
  | 3, _ => ⟨RX3, tyX3, rfl, iwX3, tyX3_ok, nmX3⟩
  | 4, _ => ⟨RX4, tyX4, rfl, iwX4, tyX4_ok, nmX4⟩
  | 5, _ => ⟨RX5, tyX5, rfl, iwX5, tyX5_ok, nmX5⟩
  | 6, _ => ⟨RX6, tyX6, rfl, iwX6, tyX6_ok, nmX6⟩
  | 7, _ => ⟨RX7, tyX7, rfl, iwX7, tyX7_ok, nmX7⟩
  | 8, _ => ⟨RX8, tyX8, rfl, iwX8, tyX8_ok, nmX8⟩
  | 9, _ => ⟨RX9, tyX9, rfl, iwX9, tyX9_ok, nmX9⟩
theorem lk_tabk0 : ∀ ci, ci < 10 → ∀ f, f < lk_nf ci → (lk_fk ci f).1 = 0 → parseFieldDescriptor (lk_T0 ci f).2.2.1 = some .int := by decide +kernel
theorem lk_tabk5 : ∀ ci, ci < 10 → ∀ f, f < lk_nf ci → (lk_fk ci f).1 = 5 → parseFieldDescriptor (lk_T0 ci f).2.2.1 = some .boolean := by decide +kernel
theorem lk_tabk1 : ∀ ci, ci < 10 → ∀ f, f < lk_nf ci → (lk_fk ci f).1 = 1 → parseFieldDescriptor (lk_T0 ci f).2.2.1 = some .long := by decide +kernel
theorem lk_tabkf : ∀ ci, ci < 10 → ∀ f, f < lk_nf ci → (lk_fk ci f).1 = 0 ∨ (lk_fk ci f).1 = 5 ∨ (lk_fk ci f).1 = 1 → (lk_T0 ci f).2.2.2 = false := by decide +kernel
theorem lk_tabk (ci : Nat) (hc : ci < 10) (f : Nat) (hf : f < lk_nf ci) : ((lk_fk ci f).1 = 0 → parseFieldDescriptor (lk_T0 ci f).2.2.1 = some .int ∧ (lk_T0 ci f).2.2.2 = false) ∧ ((lk_fk ci f).1 = 5 → parseFieldDescriptor (lk_T0 ci f).2.2.1 = some .boolean ∧ (lk_T0 ci f).2.2.2 = false) ∧ ((lk_fk ci f).1 = 1 → parseFieldDescriptor (lk_T0 ci f).2.2.1 = some .long ∧ (lk_T0 ci f).2.2.2 = false) :=
  ⟨fun h => ⟨lk_tabk0 ci hc f hf h, lk_tabkf ci hc f hf (Or.inl h)⟩, fun h => ⟨lk_tabk5 ci hc f hf h, lk_tabkf ci hc f hf (Or.inr (Or.inl h))⟩, fun h => ⟨lk_tabk1 ci hc f hf h, lk_tabkf ci hc f hf (Or.inr (Or.inr h))⟩⟩
theorem lk_fk_lt {ci f : Nat} (h : (lk_fk ci f).1 ≠ 9) : f < lk_nf ci := by
  rcases Nat.lt_or_ge f (lk_nf ci) with q | q
  · exact q
  · refine absurd ?_ h
    unfold lk_fk
    rw [List.getD_eq_getElem?_getD, List.getElem?_eq_none q]
    rfl
theorem lk_AW_good : ∀ w ∈ lk_AW, (w.onTables && w.keeps) = true ∨ ∃ ty, w = .arrayClass ty := fun _ hw => good_of_word (List.mem_filter.mp hw).2
theorem lk_good {M M' : lk_M} (hc : Cond.code M'.1 M'.2.1 M'.2.2.1 M'.2.2.2 ∈ lk_AW) : GoodIn (lk_wd M) (lk_wd M') := by
  intro w hw
  have hm : w ∈ lk_AW := by
    rcases List.mem_cons.mp hw with h | h
    · rw [h]; exact hc
    · exact h
  exact ⟨List.mem_cons_of_mem _ hm, lk_AW_good w hm⟩
theorem lk_n01 {v : Int32} (h : v = 0 ∨ v = 1) : narrow .boolean (.int v) = .int v := by rcases h with rfl | rfl <;> rfl
theorem lk_f01 {v : Int32} (h : v = 0 ∨ v = 1) : fits .boolean (.int v) = true := by rcases h with rfl | rfl <;> rfl
theorem lk_r01 {v : Int32} (h : v = 0 ∨ v = 1) : vp_nar .boolean v = v := by rcases h with rfl | rfl <;> rfl
/-! locals -/
def lk_get : List (Nat × lk_V) → Nat → Option lk_V
  | [], _ => none
  | q :: t, i => match Nat.beq q.1 i with
    | true => some q.2
    | false => lk_get t i
def lk_ins : List (Nat × lk_V) → Nat → lk_V → List (Nat × lk_V)
  | [], i, v => [(i, v)]
  | q :: t, i, v => match Nat.ble q.1 i with
    | true => q :: lk_ins t i v
    | false => (i, v) :: q :: t
def lk_st1 (L : List (Nat × lk_V)) (i : Nat) (v : lk_V) : List (Nat × lk_V) := lk_ins (L.filter (fun q => !(q.1 == i) && !(q.1 + 1 == i && lk_cat q.2 == 2))) i v
def lk_st2 (L : List (Nat × lk_V)) (i : Nat) (v : lk_V) : List (Nat × lk_V) := lk_ins (L.filter (fun q => !(q.1 == i) && (!(q.1 == i + 1) && !(q.1 + 1 == i && lk_cat q.2 == 2)))) i v
theorem lk_get_mem : ∀ {L : List (Nat × lk_V)} {i : Nat} {v : lk_V}, lk_get L i = some v → (i, v) ∈ L
  | [], _, _, h => by cases h
  | q :: t, i, v, h => by
    unfold lk_get at h
    split at h
    · rename_i hb
      have := Nat.eq_of_beq_eq_true hb
      cases h
      exact List.mem_cons.mpr (Or.inl (by rw [← this]))
    · exact List.mem_cons_of_mem _ (lk_get_mem h)
theorem lk_ins_mem : ∀ {L : List (Nat × lk_V)} {i : Nat} {v : lk_V} {q : Nat × lk_V}, q ∈ lk_ins L i v → q = (i, v) ∨ q ∈ L
  | [], i, v, q, h => by
    rcases List.mem_cons.mp h with h | h
    · exact Or.inl h
    · cases h
  | a :: t, i, v, q, h => by
    unfold lk_ins at h
    split at h
    · rcases List.mem_cons.mp h with h | h
      · exact Or.inr (by rw [h]; exact List.mem_cons_self)
      · rcases lk_ins_mem h with h | h
        · exact Or.inl h
        · exact Or.inr (List.mem_cons_of_mem _ h)
    · rcases List.mem_cons.mp h with h | h
      · exact Or.inl h
      · exact Or.inr h
abbrev lk_lc (X : lk_G) (L : List (Nat × lk_V)) : List (Nat × Value) := L.map (fun q => (q.1, lk_c X.1 q.2))
theorem lk_at_l {X : lk_G} {ls : Array Slot} {n : Nat} {L : List (Nat × lk_V)} (h : lv_has ls n (lk_lc X L)) {i : Nat} {v : lk_V} (hg : lk_get L i = some v) : ls[i]? = some (.val (lk_c X.1 v)) :=
  h.2.2 (i, lk_c X.1 v) (List.mem_map.mpr ⟨(i, v), lk_get_mem hg, rfl⟩)
theorem lk_st1_has {X : lk_G} {ls : Array Slot} {n : Nat} {L : List (Nat × lk_V)} {i : Nat} {v : lk_V} (h : lv_has ls n ((i, lk_c X.1 v) :: (lk_lc X L).filter (fun q => !(q.1 == i) && !(q.1 + 1 == i && q.2.category == 2)))) : lv_has ls n (lk_lc X (lk_st1 L i v)) := by
  refine ⟨h.1, h.2.1, fun q hq => h.2.2 q ?_⟩
  obtain ⟨r, h1, rfl⟩ := List.mem_map.mp hq
  rcases lk_ins_mem h1 with h2 | h2
  · rw [h2]; exact List.mem_cons_self
  · obtain ⟨h3, h4⟩ := List.mem_filter.mp h2
    refine List.mem_cons_of_mem _ (List.mem_filter.mpr ⟨List.mem_map.mpr ⟨r, h3, rfl⟩, ?_⟩)
    simpa [lk_c_cat] using h4
theorem lk_st2_has {X : lk_G} {ls : Array Slot} {n : Nat} {L : List (Nat × lk_V)} {i : Nat} {v : lk_V} (h : lv_has ls n ((i, lk_c X.1 v) :: (lk_lc X L).filter (fun q => !(q.1 == i) && (!(q.1 == i + 1) && !(q.1 + 1 == i && q.2.category == 2))))) : lv_has ls n (lk_lc X (lk_st2 L i v)) := by
  refine ⟨h.1, h.2.1, fun q hq => h.2.2 q ?_⟩
  obtain ⟨r, h1, rfl⟩ := List.mem_map.mp hq
  rcases lk_ins_mem h1 with h2 | h2
  · rw [h2]; exact List.mem_cons_self
  · obtain ⟨h3, h4⟩ := List.mem_filter.mp h2
    refine List.mem_cons_of_mem _ (List.mem_filter.mpr ⟨List.mem_map.mpr ⟨r, h3, rfl⟩, ?_⟩)
    simpa [lk_c_cat] using h4
def lk_pick (L : List (Nat × lk_V)) (is : List Nat) : List (Nat × lk_V) := is.filterMap (fun i => (lk_get L i).map (fun v => (i, v)))
section LKR
variable {l : Launch} {X : lk_G} {M : lk_M} {d pc : Nat} {L : List (Nat × lk_V)} {S : List lk_V} {σ : lk_N} {τ : lk_T} {Q : lk_Q}
/-- fewer locals -/
theorem lk_sub {L' : List (Nat × lk_V)} (is : List Nat) (hL : lk_pick L is = L') (k : lk_W l X M d pc L' S σ τ Q) : lk_W l X M d pc L S σ τ Q := by
  intro p e s m args below meth c H locs ls C hP hD hS hl
  refine k p e s m args below meth c H locs ls C hP hD hS ⟨hl.1, hl.2.1, fun q hq => hl.2.2 q ?_⟩
  subst hL
  obtain ⟨r, h1, rfl⟩ := List.mem_map.mp hq
  obtain ⟨i, -, h2⟩ := List.mem_filterMap.mp h1
  cases hg : lk_get L i with
  | none => rw [hg] at h2; cases h2
  | some v =>
    rw [hg] at h2
    cases h2
    exact List.mem_map.mpr ⟨(i, v), lk_get_mem hg, rfl⟩
theorem lk_cast {pc' : Nat} {L' : List (Nat × lk_V)} {S' : List lk_V} (h1 : pc' = pc) (h2 : L' = L) (h3 : S' = S) (k : lk_W l X M d pc' L' S' σ τ Q) : lk_W l X M d pc L S σ τ Q := by subst h1; subst h2; subst h3; exact k
theorem lk_mono {Q' : lk_Q} (h : lk_W l X M d pc L S σ τ Q') (hQ : ∀ r a b, Q' r a b → Q r a b) : lk_W l X M d pc L S σ τ Q := by
  intro p e s m args below meth c H locs ls C hP hD hS hl T hT X0
  obtain ⟨t, h1, o, h2, h3, ⟨⟨r, a, b, q1, q2, q3⟩, q4⟩, h5⟩ := h p e s m args below meth c H locs ls C hP hD hS hl T hT X0
  exact ⟨t, h1, o, h2, h3, ⟨⟨r, a, b, q1, hQ r a b q2, q3⟩, q4⟩, h5⟩
theorem lk_iconst {n : Int} {v : Int32} (hd : decode M.2.1 pc = .ok (.iconst n, 1)) (hv : Int32.ofInt n = v) (k : lk_W l X M d (pc + 1) L (lk_vi v :: S) σ τ Q) : lk_W l X M d pc L S σ τ Q :=
  fun p e s m args below meth c H locs ls C hP hD hS hl => lv_iconst C.1 C.2.1 hd hv (k p e s m args below meth c H locs ls C hP hD hS hl)
theorem lk_bipush {n : Int} {v : Int32} (hd : decode M.2.1 pc = .ok (.bipush n, 2)) (hv : (Int8.ofInt n).toInt32 = v) (k : lk_W l X M d (pc + 2) L (lk_vi v :: S) σ τ Q) : lk_W l X M d pc L S σ τ Q :=
  fun p e s m args below meth c H locs ls C hP hD hS hl => lv_bipush C.1 C.2.1 hd hv (k p e s m args below meth c H locs ls C hP hD hS hl)
theorem lk_sipush {n : Int} {v : Int32} (hd : decode M.2.1 pc = .ok (.sipush n, 3)) (hv : (Int16.ofInt n).toInt32 = v) (k : lk_W l X M d (pc + 3) L (lk_vi v :: S) σ τ Q) : lk_W l X M d pc L S σ τ Q :=
  fun p e s m args below meth c H locs ls C hP hD hS hl => lv_sipush C.1 C.2.1 hd hv (k p e s m args below meth c H locs ls C hP hD hS hl)
theorem lk_lconst {n : Fin 2} {v : Int64} (hd : decode M.2.1 pc = .ok (.lconst n, 1)) (hv : Int64.ofNat (n : Nat) = v) (k : lk_W l X M d (pc + 1) L (lk_vl v :: S) σ τ Q) : lk_W l X M d pc L S σ τ Q :=
  fun p e s m args below meth c H locs ls C hP hD hS hl => lv_lconst C.1 C.2.1 hd hv (k p e s m args below meth c H locs ls C hP hD hS hl)
theorem lk_ldc {idx : Nat} {v : Int32} (hd : decode M.2.1 pc = .ok (.ldc idx, 2)) (hw : Cond.constant M.1.cls idx v ∈ lk_AW) (k : lk_W l X M d (pc + 2) L (lk_vi v :: S) σ τ Q) : lk_W l X M d pc L S σ τ Q :=
  fun p e s m args below meth c H locs ls C hP hD hS hl => lv_ldc C.1 C.2.1 C.2.2.2.2.1 (C.2.2.2.2.2.1 _ (List.mem_cons_of_mem _ hw)) hd (k p e s m args below meth c H locs ls C hP hD hS hl)
theorem lk_ldc2 {idx : Nat} {v : Int64} (hd : decode M.2.1 pc = .ok (.ldc2_w idx, 3)) (hw : Cond.constantLong M.1.cls idx v ∈ lk_AW) (k : lk_W l X M d (pc + 3) L (lk_vl v :: S) σ τ Q) : lk_W l X M d pc L S σ τ Q :=
  fun p e s m args below meth c H locs ls C hP hD hS hl => lv_ldc2 C.1 C.2.1 C.2.2.2.2.1 (C.2.2.2.2.2.1 _ (List.mem_cons_of_mem _ hw)) hd (k p e s m args below meth c H locs ls C hP hD hS hl)
theorem lk_iload_n {k4 : Fin 4} {i : Nat} {x : Int32} (hd : decode M.2.1 pc = .ok (.iload_n k4, 1)) (hi : (k4 : Nat) = i) (hg : lk_get L i = some (lk_vi x)) (k : lk_W l X M d (pc + 1) L (lk_vi x :: S) σ τ Q) : lk_W l X M d pc L S σ τ Q :=
  fun p e s m args below meth c H locs ls C hP hD hS hl => lv_iload_n C.1 C.2.1 hd hi (lk_at_l hl hg) (k p e s m args below meth c H locs ls C hP hD hS hl)
theorem lk_iload {i : Nat} {x : Int32} (hd : decode M.2.1 pc = .ok (.iload i, 2)) (hg : lk_get L i = some (lk_vi x)) (k : lk_W l X M d (pc + 2) L (lk_vi x :: S) σ τ Q) : lk_W l X M d pc L S σ τ Q :=
  fun p e s m args below meth c H locs ls C hP hD hS hl => lv_iload C.1 C.2.1 hd (lk_at_l hl hg) (k p e s m args below meth c H locs ls C hP hD hS hl)
theorem lk_lload_n {k4 : Fin 4} {i : Nat} {x : Int64} (hd : decode M.2.1 pc = .ok (.lload_n k4, 1)) (hi : (k4 : Nat) = i) (hg : lk_get L i = some (lk_vl x)) (k : lk_W l X M d (pc + 1) L (lk_vl x :: S) σ τ Q) : lk_W l X M d pc L S σ τ Q :=
  fun p e s m args below meth c H locs ls C hP hD hS hl => lv_lload_n C.1 C.2.1 hd hi (lk_at_l hl hg) (k p e s m args below meth c H locs ls C hP hD hS hl)
theorem lk_lload {i : Nat} {x : Int64} (hd : decode M.2.1 pc = .ok (.lload i, 2)) (hg : lk_get L i = some (lk_vl x)) (k : lk_W l X M d (pc + 2) L (lk_vl x :: S) σ τ Q) : lk_W l X M d pc L S σ τ Q :=
  fun p e s m args below meth c H locs ls C hP hD hS hl => lv_lload C.1 C.2.1 hd (lk_at_l hl hg) (k p e s m args below meth c H locs ls C hP hD hS hl)
theorem lk_aload_n {k4 : Fin 4} {i o f : Nat} (hd : decode M.2.1 pc = .ok (.aload_n k4, 1)) (hi : (k4 : Nat) = i) (hg : lk_get L i = some (lk_vr o f)) (k : lk_W l X M d (pc + 1) L (lk_vr o f :: S) σ τ Q) : lk_W l X M d pc L S σ τ Q :=
  fun p e s m args below meth c H locs ls C hP hD hS hl => lv_aload_n C.1 C.2.1 hd hi (lk_at_l hl hg) (k p e s m args below meth c H locs ls C hP hD hS hl)
theorem lk_aload {i o f : Nat} (hd : decode M.2.1 pc = .ok (.aload i, 2)) (hg : lk_get L i = some (lk_vr o f)) (k : lk_W l X M d (pc + 2) L (lk_vr o f :: S) σ τ Q) : lk_W l X M d pc L S σ τ Q :=
  fun p e s m args below meth c H locs ls C hP hD hS hl => lv_aload C.1 C.2.1 hd (lk_at_l hl hg) (k p e s m args below meth c H locs ls C hP hD hS hl)
theorem lk_istore_n {k4 : Fin 4} {i : Nat} {x : Int32} {L' : List (Nat × lk_V)} (hd : decode M.2.1 pc = .ok (.istore_n k4, 1)) (hi : (k4 : Nat) = i) (hn : i < M.2.2.1) (hL : lk_st1 L i (lk_vi x) = L') (k : lk_W l X M d (pc + 1) L' S σ τ Q) : lk_W l X M d pc L (lk_vi x :: S) σ τ Q :=
  fun p e s m args below meth c H locs ls C hP hD hS hl => lv_istore_n C.1 C.2.1 hd hi hl hn rfl (fun ls' hl' => k p e s m args below meth c H locs ls' C hP hD hS (by rw [← hL]; exact lk_st1_has hl'))
theorem lk_istore {i : Nat} {x : Int32} {L' : List (Nat × lk_V)} (hd : decode M.2.1 pc = .ok (.istore i, 2)) (hn : i < M.2.2.1) (hL : lk_st1 L i (lk_vi x) = L') (k : lk_W l X M d (pc + 2) L' S σ τ Q) : lk_W l X M d pc L (lk_vi x :: S) σ τ Q :=
  fun p e s m args below meth c H locs ls C hP hD hS hl => lv_istore C.1 C.2.1 hd hl hn rfl (fun ls' hl' => k p e s m args below meth c H locs ls' C hP hD hS (by rw [← hL]; exact lk_st1_has hl'))
theorem lk_lstore_n {k4 : Fin 4} {i : Nat} {x : Int64} {L' : List (Nat × lk_V)} (hd : decode M.2.1 pc = .ok (.lstore_n k4, 1)) (hi : (k4 : Nat) = i) (hn : i + 1 < M.2.2.1) (hL : lk_st2 L i (lk_vl x) = L') (k : lk_W l X M d (pc + 1) L' S σ τ Q) : lk_W l X M d pc L (lk_vl x :: S) σ τ Q :=
  fun p e s m args below meth c H locs ls C hP hD hS hl => lv_lstore_n C.1 C.2.1 hd hi hl hn rfl (fun ls' hl' => k p e s m args below meth c H locs ls' C hP hD hS (by rw [← hL]; exact lk_st2_has hl'))
theorem lk_lstore {i : Nat} {x : Int64} {L' : List (Nat × lk_V)} (hd : decode M.2.1 pc = .ok (.lstore i, 2)) (hn : i + 1 < M.2.2.1) (hL : lk_st2 L i (lk_vl x) = L') (k : lk_W l X M d (pc + 2) L' S σ τ Q) : lk_W l X M d pc L (lk_vl x :: S) σ τ Q :=
  fun p e s m args below meth c H locs ls C hP hD hS hl => lv_lstore C.1 C.2.1 hd hl hn rfl (fun ls' hl' => k p e s m args below meth c H locs ls' C hP hD hS (by rw [← hL]; exact lk_st2_has hl'))
theorem lk_astore_n {k4 : Fin 4} {i o f : Nat} {L' : List (Nat × lk_V)} (hd : decode M.2.1 pc = .ok (.astore_n k4, 1)) (hi : (k4 : Nat) = i) (hn : i < M.2.2.1) (hL : lk_st1 L i (lk_vr o f) = L') (k : lk_W l X M d (pc + 1) L' S σ τ Q) : lk_W l X M d pc L (lk_vr o f :: S) σ τ Q :=
  fun p e s m args below meth c H locs ls C hP hD hS hl => lv_astore_n C.1 C.2.1 hd hi hl hn rfl (fun ls' hl' => k p e s m args below meth c H locs ls' C hP hD hS (by rw [← hL]; exact lk_st1_has (v := lk_vr o f) hl'))
theorem lk_iinc {i : Nat} {n : Int} {x v : Int32} {L' : List (Nat × lk_V)} (hd : decode M.2.1 pc = .ok (.iinc i n, 3)) (hg : lk_get L i = some (lk_vi x)) (hv : x + Int32.ofInt n = v) (hn : i < M.2.2.1) (hL : lk_st1 L i (lk_vi v) = L') (k : lk_W l X M d (pc + 3) L' S σ τ Q) : lk_W l X M d pc L S σ τ Q := by
  intro p e s m args below meth c H locs ls C hP hD hS hl
  obtain ⟨j, hj⟩ := List.getElem?_of_mem (List.mem_map.mpr ⟨(i, lk_vi x), lk_get_mem hg, rfl⟩ : (i, Value.int x) ∈ lk_lc X L)
  exact lv_iinc C.1 C.2.1 hd hl hj hv hn rfl (fun ls' hl' => k p e s m args below meth c H locs ls' C hP hD hS (by rw [← hL]; exact lk_st1_has (v := lk_vi v) hl'))
theorem lk_iadd {x y : Int32} (hd : decode M.2.1 pc = .ok (.iadd, 1)) (k : lk_W l X M d (pc + 1) L (lk_vi (x + y) :: S) σ τ Q) : lk_W l X M d pc L (lk_vi y :: lk_vi x :: S) σ τ Q :=
  fun p e s m args below meth c H locs ls C hP hD hS hl => lv_iadd C.1 C.2.1 hd (k p e s m args below meth c H locs ls C hP hD hS hl)
theorem lk_isub {x y : Int32} (hd : decode M.2.1 pc = .ok (.isub, 1)) (k : lk_W l X M d (pc + 1) L (lk_vi (x - y) :: S) σ τ Q) : lk_W l X M d pc L (lk_vi y :: lk_vi x :: S) σ τ Q :=
  fun p e s m args below meth c H locs ls C hP hD hS hl => lv_isub C.1 C.2.1 hd (k p e s m args below meth c H locs ls C hP hD hS hl)
theorem lk_imul {x y : Int32} (hd : decode M.2.1 pc = .ok (.imul, 1)) (k : lk_W l X M d (pc + 1) L (lk_vi (x * y) :: S) σ τ Q) : lk_W l X M d pc L (lk_vi y :: lk_vi x :: S) σ τ Q :=
  fun p e s m args below meth c H locs ls C hP hD hS hl => lv_imul C.1 C.2.1 hd (k p e s m args below meth c H locs ls C hP hD hS hl)
theorem lk_iand {x y : Int32} (hd : decode M.2.1 pc = .ok (.iand, 1)) (k : lk_W l X M d (pc + 1) L (lk_vi (x &&& y) :: S) σ τ Q) : lk_W l X M d pc L (lk_vi y :: lk_vi x :: S) σ τ Q :=
  fun p e s m args below meth c H locs ls C hP hD hS hl => lv_iand C.1 C.2.1 hd (k p e s m args below meth c H locs ls C hP hD hS hl)
theorem lk_ishl {x y : Int32} (hd : decode M.2.1 pc = .ok (.ishl, 1)) (k : lk_W l X M d (pc + 1) L (lk_vi (x <<< (y &&& 31)) :: S) σ τ Q) : lk_W l X M d pc L (lk_vi y :: lk_vi x :: S) σ τ Q :=
  fun p e s m args below meth c H locs ls C hP hD hS hl => lv_ishl C.1 C.2.1 hd (k p e s m args below meth c H locs ls C hP hD hS hl)
theorem lk_ishr {x y : Int32} (hd : decode M.2.1 pc = .ok (.ishr, 1)) (k : lk_W l X M d (pc + 1) L (lk_vi (x >>> (y &&& 31)) :: S) σ τ Q) : lk_W l X M d pc L (lk_vi y :: lk_vi x :: S) σ τ Q :=
  fun p e s m args below meth c H locs ls C hP hD hS hl => lv_ishr C.1 C.2.1 hd (k p e s m args below meth c H locs ls C hP hD hS hl)
theorem lk_idiv {x y : Int32} (hd : decode M.2.1 pc = .ok (.idiv, 1)) (hne : ¬ y = 0) (k : lk_W l X M d (pc + 1) L (lk_vi (x / y) :: S) σ τ Q) : lk_W l X M d pc L (lk_vi y :: lk_vi x :: S) σ τ Q :=
  fun p e s m args below meth c H locs ls C hP hD hS hl => lv_idiv C.1 C.2.1 hd hne (k p e s m args below meth c H locs ls C hP hD hS hl)
theorem lk_irem {x y : Int32} (hd : decode M.2.1 pc = .ok (.irem, 1)) (hne : ¬ y = 0) (k : lk_W l X M d (pc + 1) L (lk_vi (x - x / y * y) :: S) σ τ Q) : lk_W l X M d pc L (lk_vi y :: lk_vi x :: S) σ τ Q :=
  fun p e s m args below meth c H locs ls C hP hD hS hl => lv_irem C.1 C.2.1 hd hne (k p e s m args below meth c H locs ls C hP hD hS hl)
theorem lk_ineg {x : Int32} (hd : decode M.2.1 pc = .ok (.ineg, 1)) (k : lk_W l X M d (pc + 1) L (lk_vi (0 - x) :: S) σ τ Q) : lk_W l X M d pc L (lk_vi x :: S) σ τ Q :=
  fun p e s m args below meth c H locs ls C hP hD hS hl => lv_ineg C.1 C.2.1 hd (k p e s m args below meth c H locs ls C hP hD hS hl)
theorem lk_ladd {x y : Int64} (hd : decode M.2.1 pc = .ok (.ladd, 1)) (k : lk_W l X M d (pc + 1) L (lk_vl (x + y) :: S) σ τ Q) : lk_W l X M d pc L (lk_vl y :: lk_vl x :: S) σ τ Q :=
  fun p e s m args below meth c H locs ls C hP hD hS hl => lv_ladd C.1 C.2.1 hd (k p e s m args below meth c H locs ls C hP hD hS hl)
theorem lk_lmul {x y : Int64} (hd : decode M.2.1 pc = .ok (.lmul, 1)) (k : lk_W l X M d (pc + 1) L (lk_vl (x * y) :: S) σ τ Q) : lk_W l X M d pc L (lk_vl y :: lk_vl x :: S) σ τ Q :=
  fun p e s m args below meth c H locs ls C hP hD hS hl => lv_lmul C.1 C.2.1 hd (k p e s m args below meth c H locs ls C hP hD hS hl)
theorem lk_land {x y : Int64} (hd : decode M.2.1 pc = .ok (.land, 1)) (k : lk_W l X M d (pc + 1) L (lk_vl (x &&& y) :: S) σ τ Q) : lk_W l X M d pc L (lk_vl y :: lk_vl x :: S) σ τ Q :=
  fun p e s m args below meth c H locs ls C hP hD hS hl => lv_land C.1 C.2.1 hd (k p e s m args below meth c H locs ls C hP hD hS hl)
theorem lk_lxor {x y : Int64} (hd : decode M.2.1 pc = .ok (.lxor, 1)) (k : lk_W l X M d (pc + 1) L (lk_vl (x ^^^ y) :: S) σ τ Q) : lk_W l X M d pc L (lk_vl y :: lk_vl x :: S) σ τ Q :=
  fun p e s m args below meth c H locs ls C hP hD hS hl => lv_lxor C.1 C.2.1 hd (k p e s m args below meth c H locs ls C hP hD hS hl)
theorem lk_ldiv {x y : Int64} (hd : decode M.2.1 pc = .ok (.ldiv, 1)) (hne : ¬ y = 0) (k : lk_W l X M d (pc + 1) L (lk_vl (x / y) :: S) σ τ Q) : lk_W l X M d pc L (lk_vl y :: lk_vl x :: S) σ τ Q :=
  fun p e s m args below meth c H locs ls C hP hD hS hl => lv_ldiv C.1 C.2.1 hd hne (k p e s m args below meth c H locs ls C hP hD hS hl)
theorem lk_lcmp {x y : Int64} (hd : decode M.2.1 pc = .ok (.lcmp, 1)) (k : lk_W l X M d (pc + 1) L (lk_vi (lg_cmp x y) :: S) σ τ Q) : lk_W l X M d pc L (lk_vl y :: lk_vl x :: S) σ τ Q :=
  fun p e s m args below meth c H locs ls C hP hD hS hl => W.lcmp C.1 C.2.1 hd (k p e s m args below meth c H locs ls C hP hD hS hl)
theorem lk_dup {v : lk_V} (hd : decode M.2.1 pc = .ok (.dup, 1)) (hv : lk_cat v = 1) (k : lk_W l X M d (pc + 1) L (v :: v :: S) σ τ Q) : lk_W l X M d pc L (v :: S) σ τ Q :=
  fun p e s m args below meth c H locs ls C hP hD hS hl => lv_dup C.1 C.2.1 hd (by rw [lk_c_cat]; exact hv) (k p e s m args below meth c H locs ls C hP hD hS hl)
theorem lk_pop {v : lk_V} (hd : decode M.2.1 pc = .ok (.pop, 1)) (hv : lk_cat v = 1) (k : lk_W l X M d (pc + 1) L S σ τ Q) : lk_W l X M d pc L (v :: S) σ τ Q :=
  fun p e s m args below meth c H locs ls C hP hD hS hl => lv_pop C.1 C.2.1 hd (by rw [lk_c_cat]; exact hv) (k p e s m args below meth c H locs ls C hP hD hS hl)
theorem lk_dup2 {v w : lk_V} (hd : decode M.2.1 pc = .ok (.dup2, 1)) (hv : lk_cat v = 1) (hw : lk_cat w = 1) (k : lk_W l X M d (pc + 1) L (v :: w :: v :: w :: S) σ τ Q) : lk_W l X M d pc L (v :: w :: S) σ τ Q :=
  fun p e s m args below meth c H locs ls C hP hD hS hl => lv_dup2_11 C.1 C.2.1 hd (by rw [lk_c_cat]; exact hv) (by rw [lk_c_cat]; exact hw) (k p e s m args below meth c H locs ls C hP hD hS hl)
theorem lk_dup_x1 {v w : lk_V} (hd : decode M.2.1 pc = .ok (.dup_x1, 1)) (hv : lk_cat v = 1) (hw : lk_cat w = 1) (k : lk_W l X M d (pc + 1) L (v :: w :: v :: S) σ τ Q) : lk_W l X M d pc L (v :: w :: S) σ τ Q :=
  fun p e s m args below meth c H locs ls C hP hD hS hl => lv_dup_x1 C.1 C.2.1 hd (by rw [lk_c_cat]; exact hv) (by rw [lk_c_cat]; exact hw) (k p e s m args below meth c H locs ls C hP hD hS hl)
theorem lk_dup_x2 {v w u : lk_V} (hd : decode M.2.1 pc = .ok (.dup_x2, 1)) (hv : lk_cat v = 1) (hw : lk_cat w = 1) (hu : lk_cat u = 1) (k : lk_W l X M d (pc + 1) L (v :: w :: u :: v :: S) σ τ Q) : lk_W l X M d pc L (v :: w :: u :: S) σ τ Q :=
  fun p e s m args below meth c H locs ls C hP hD hS hl => lv_dup_x2 C.1 C.2.1 hd (by rw [lk_c_cat]; exact hv) (by rw [lk_c_cat]; exact hw) (by rw [lk_c_cat]; exact hu) (k p e s m args below meth c H locs ls C hP hD hS hl)
theorem lk_goto {off : Int} {tgt : Nat} (hd : decode M.2.1 pc = .ok (.goto off, 3)) (ht : (pc : Int) + off = (tgt : Int)) (k : lk_W l X M d tgt L S σ τ Q) : lk_W l X M d pc L S σ τ Q :=
  fun p e s m args below meth c H locs ls C hP hD hS hl => lv_goto C.1 C.2.1 hd ht (k p e s m args below meth c H locs ls C hP hD hS hl)
theorem lk_if_eq {x : Int32} {off : Int} {tgt : Nat} (hd : decode M.2.1 pc = .ok (.ifCond .eq off, 3)) (ht : (pc : Int) + off = (tgt : Int)) (kt : x = 0 → lk_W l X M d tgt L S σ τ Q) (kf : ¬ x = 0 → lk_W l X M d (pc + 3) L S σ τ Q) : lk_W l X M d pc L (lk_vi x :: S) σ τ Q :=
  fun p e s m args below meth c H locs ls C hP hD hS hl => lv_if_eq C.1 C.2.1 hd ht (fun z => kt z p e s m args below meth c H locs ls C hP hD hS hl) (fun z => kf z p e s m args below meth c H locs ls C hP hD hS hl)
theorem lk_icmp_eq {x y : Int32} {off : Int} {tgt : Nat} (hd : decode M.2.1 pc = .ok (.if_icmp .eq off, 3)) (ht : (pc : Int) + off = (tgt : Int)) (kt : x = y → lk_W l X M d tgt L S σ τ Q) (kf : ¬ x = y → lk_W l X M d (pc + 3) L S σ τ Q) : lk_W l X M d pc L (lk_vi y :: lk_vi x :: S) σ τ Q :=
  fun p e s m args below meth c H locs ls C hP hD hS hl => lv_icmp_eq C.1 C.2.1 hd ht (fun z => kt z p e s m args below meth c H locs ls C hP hD hS hl) (fun z => kf z p e s m args below meth c H locs ls C hP hD hS hl)
theorem lk_if_ne {x : Int32} {off : Int} {tgt : Nat} (hd : decode M.2.1 pc = .ok (.ifCond .ne off, 3)) (ht : (pc : Int) + off = (tgt : Int)) (kt : ¬ x = 0 → lk_W l X M d tgt L S σ τ Q) (kf : x = 0 → lk_W l X M d (pc + 3) L S σ τ Q) : lk_W l X M d pc L (lk_vi x :: S) σ τ Q :=
  fun p e s m args below meth c H locs ls C hP hD hS hl => lv_if_ne C.1 C.2.1 hd ht (fun z => kt z p e s m args below meth c H locs ls C hP hD hS hl) (fun z => kf z p e s m args below meth c H locs ls C hP hD hS hl)
theorem lk_icmp_ne {x y : Int32} {off : Int} {tgt : Nat} (hd : decode M.2.1 pc = .ok (.if_icmp .ne off, 3)) (ht : (pc : Int) + off = (tgt : Int)) (kt : ¬ x = y → lk_W l X M d tgt L S σ τ Q) (kf : x = y → lk_W l X M d (pc + 3) L S σ τ Q) : lk_W l X M d pc L (lk_vi y :: lk_vi x :: S) σ τ Q :=
  fun p e s m args below meth c H locs ls C hP hD hS hl => lv_icmp_ne C.1 C.2.1 hd ht (fun z => kt z p e s m args below meth c H locs ls C hP hD hS hl) (fun z => kf z p e s m args below meth c H locs ls C hP hD hS hl)
theorem lk_if_lt {x : Int32} {off : Int} {tgt : Nat} (hd : decode M.2.1 pc = .ok (.ifCond .lt off, 3)) (ht : (pc : Int) + off = (tgt : Int)) (kt : x < 0 → lk_W l X M d tgt L S σ τ Q) (kf : ¬ x < 0 → lk_W l X M d (pc + 3) L S σ τ Q) : lk_W l X M d pc L (lk_vi x :: S) σ τ Q :=
  fun p e s m args below meth c H locs ls C hP hD hS hl => lv_if_lt C.1 C.2.1 hd ht (fun z => kt z p e s m args below meth c H locs ls C hP hD hS hl) (fun z => kf z p e s m args below meth c H locs ls C hP hD hS hl)
theorem lk_icmp_lt {x y : Int32} {off : Int} {tgt : Nat} (hd : decode M.2.1 pc = .ok (.if_icmp .lt off, 3)) (ht : (pc : Int) + off = (tgt : Int)) (kt : x < y → lk_W l X M d tgt L S σ τ Q) (kf : ¬ x < y → lk_W l X M d (pc + 3) L S σ τ Q) : lk_W l X M d pc L (lk_vi y :: lk_vi x :: S) σ τ Q :=
  fun p e s m args below meth c H locs ls C hP hD hS hl => lv_icmp_lt C.1 C.2.1 hd ht (fun z => kt z p e s m args below meth c H locs ls C hP hD hS hl) (fun z => kf z p e s m args below meth c H locs ls C hP hD hS hl)
theorem lk_if_ge {x : Int32} {off : Int} {tgt : Nat} (hd : decode M.2.1 pc = .ok (.ifCond .ge off, 3)) (ht : (pc : Int) + off = (tgt : Int)) (kt : 0 ≤ x → lk_W l X M d tgt L S σ τ Q) (kf : ¬ 0 ≤ x → lk_W l X M d (pc + 3) L S σ τ Q) : lk_W l X M d pc L (lk_vi x :: S) σ τ Q :=
  fun p e s m args below meth c H locs ls C hP hD hS hl => lv_if_ge C.1 C.2.1 hd ht (fun z => kt z p e s m args below meth c H locs ls C hP hD hS hl) (fun z => kf z p e s m args below meth c H locs ls C hP hD hS hl)
theorem lk_icmp_ge {x y : Int32} {off : Int} {tgt : Nat} (hd : decode M.2.1 pc = .ok (.if_icmp .ge off, 3)) (ht : (pc : Int) + off = (tgt : Int)) (kt : y ≤ x → lk_W l X M d tgt L S σ τ Q) (kf : ¬ y ≤ x → lk_W l X M d (pc + 3) L S σ τ Q) : lk_W l X M d pc L (lk_vi y :: lk_vi x :: S) σ τ Q :=
  fun p e s m args below meth c H locs ls C hP hD hS hl => lv_icmp_ge C.1 C.2.1 hd ht (fun z => kt z p e s m args below meth c H locs ls C hP hD hS hl) (fun z => kf z p e s m args below meth c H locs ls C hP hD hS hl)
theorem lk_if_gt {x : Int32} {off : Int} {tgt : Nat} (hd : decode M.2.1 pc = .ok (.ifCond .gt off, 3)) (ht : (pc : Int) + off = (tgt : Int)) (kt : 0 < x → lk_W l X M d tgt L S σ τ Q) (kf : ¬ 0 < x → lk_W l X M d (pc + 3) L S σ τ Q) : lk_W l X M d pc L (lk_vi x :: S) σ τ Q :=
  fun p e s m args below meth c H locs ls C hP hD hS hl => lv_if_gt C.1 C.2.1 hd ht (fun z => kt z p e s m args below meth c H locs ls C hP hD hS hl) (fun z => kf z p e s m args below meth c H locs ls C hP hD hS hl)
theorem lk_icmp_gt {x y : Int32} {off : Int} {tgt : Nat} (hd : decode M.2.1 pc = .ok (.if_icmp .gt off, 3)) (ht : (pc : Int) + off = (tgt : Int)) (kt : y < x → lk_W l X M d tgt L S σ τ Q) (kf : ¬ y < x → lk_W l X M d (pc + 3) L S σ τ Q) : lk_W l X M d pc L (lk_vi y :: lk_vi x :: S) σ τ Q :=
  fun p e s m args below meth c H locs ls C hP hD hS hl => lv_icmp_gt C.1 C.2.1 hd ht (fun z => kt z p e s m args below meth c H locs ls C hP hD hS hl) (fun z => kf z p e s m args below meth c H locs ls C hP hD hS hl)
theorem lk_if_le {x : Int32} {off : Int} {tgt : Nat} (hd : decode M.2.1 pc = .ok (.ifCond .le off, 3)) (ht : (pc : Int) + off = (tgt : Int)) (kt : x ≤ 0 → lk_W l X M d tgt L S σ τ Q) (kf : ¬ x ≤ 0 → lk_W l X M d (pc + 3) L S σ τ Q) : lk_W l X M d pc L (lk_vi x :: S) σ τ Q :=
  fun p e s m args below meth c H locs ls C hP hD hS hl => lv_if_le C.1 C.2.1 hd ht (fun z => kt z p e s m args below meth c H locs ls C hP hD hS hl) (fun z => kf z p e s m args below meth c H locs ls C hP hD hS hl)
theorem lk_icmp_le {x y : Int32} {off : Int} {tgt : Nat} (hd : decode M.2.1 pc = .ok (.if_icmp .le off, 3)) (ht : (pc : Int) + off = (tgt : Int)) (kt : x ≤ y → lk_W l X M d tgt L S σ τ Q) (kf : ¬ x ≤ y → lk_W l X M d (pc + 3) L S σ τ Q) : lk_W l X M d pc L (lk_vi y :: lk_vi x :: S) σ τ Q :=
  fun p e s m args below meth c H locs ls C hP hD hS hl => lv_icmp_le C.1 C.2.1 hd ht (fun z => kt z p e s m args below meth c H locs ls C hP hD hS hl) (fun z => kf z p e s m args below meth c H locs ls C hP hD hS hl)
/-! fields -/
theorem lk_getv {o f ci idx : Nat} {v : lk_V} (hd : decode M.2.1 pc = .ok (.getfield idx, 3)) (hc : lk_ko o = ci) (hl : lk_lk M.1.cls idx ci f ∈ lk_AW) (hci : ci < 10) (hf : f < lk_nf ci) (hv : lk_fv X.1 σ τ o f = lk_c X.1 v) (k : lk_W l X M d (pc + 3) L (v :: S) σ τ Q) : lk_W l X M d pc L (lk_vr o 0 :: S) σ τ Q := by
  subst hc
  intro p e s m args below meth c H locs ls C hP hD hS hl0
  obtain ⟨q0, hq, hw⟩ := lk_at (X := X) (σ := σ) (τ := τ) (lk_mem0 (lk_ko_lt rfl hci))
  obtain ⟨Cn, ty0, h1, h2, h3, h4⟩ := lk_tab (lk_ko o) hci
  have hts := C.2.2.2.2.2.1
  refine va_get C.1 C.2.1 hts (fun w hw => List.mem_cons_of_mem _ (h2 w hw)) C.2.2.2.2.1 C.2.2.2.2.2.2.2 hP q0 hw h1 f hf (hts _ (List.mem_cons_of_mem _ hl)) (fun _ h9 => h9) (v := lk_c X.1 v) ?_ hd (k p e s m args below meth c H locs ls C hP hD hS hl0)
  rw [List.getElem?_map, List.getElem?_range hf]
  exact congrArg some hv
theorem lk_getI {o f ci idx : Nat} (hd : decode M.2.1 pc = .ok (.getfield idx, 3)) (hc : lk_ko o = ci) (hl : lk_lk M.1.cls idx ci f ∈ lk_AW) (hci : ci < 10) (hk : (lk_fk ci f).1 = 0 ∨ (lk_fk ci f).1 = 5) (k : lk_W l X M d (pc + 3) L (lk_vi (σ o f 0) :: S) σ τ Q) : lk_W l X M d pc L (lk_vr o 0 :: S) σ τ Q :=
  lk_getv hd hc hl hci (lk_fk_lt (by omega)) (by subst hc; simp [lk_fv, hk, lk_c]) k
theorem lk_getL {o f ci idx : Nat} (hd : decode M.2.1 pc = .ok (.getfield idx, 3)) (hc : lk_ko o = ci) (hl : lk_lk M.1.cls idx ci f ∈ lk_AW) (hci : ci < 10) (hk : (lk_fk ci f).1 = 1) (k : lk_W l X M d (pc + 3) L (lk_vl (τ o f) :: S) σ τ Q) : lk_W l X M d pc L (lk_vr o 0 :: S) σ τ Q :=
  lk_getv hd hc hl hci (lk_fk_lt (by omega)) (by subst hc; simp [lk_fv, hk, lk_c]) k
theorem lk_getR {o f ci idx : Nat} (hd : decode M.2.1 pc = .ok (.getfield idx, 3)) (hc : lk_ko o = ci) (hl : lk_lk M.1.cls idx ci f ∈ lk_AW) (hci : ci < 10) (hk : (lk_fk ci f).1 = 2 ∨ (lk_fk ci f).1 = 3) (k : lk_W l X M d (pc + 3) L (lk_vr o (f + 1) :: S) σ τ Q) : lk_W l X M d pc L (lk_vr o 0 :: S) σ τ Q :=
  lk_getv hd hc hl hci (lk_fk_lt (by omega)) (by subst hc; rcases hk with hk | hk <;> simp [lk_fv, hk, lk_c]) k
theorem lk_getO {o f ci idx o' : Nat} (hd : decode M.2.1 pc = .ok (.getfield idx, 3)) (hc : lk_ko o = ci) (hl : lk_lk M.1.cls idx ci f ∈ lk_AW) (hci : ci < 10) (hk : (lk_fk ci f).1 = 4) (ho : lk_fo o f = o') (k : lk_W l X M d (pc + 3) L (lk_vr o' 0 :: S) σ τ Q) : lk_W l X M d pc L (lk_vr o 0 :: S) σ τ Q :=
  lk_getv hd hc hl hci (lk_fk_lt (by omega)) (by subst hc; subst ho; simp [lk_fv, hk, lk_c]) k
theorem lk_putI {o f ci idx : Nat} {v : Int32} (hd : decode M.2.1 pc = .ok (.putfield idx, 3)) (hc : lk_ko o = ci) (hl : lk_lk M.1.cls idx ci f ∈ lk_AW) (hci : ci < 10) (hk : (lk_fk ci f).1 = 0) (k : lk_W l X M d (pc + 3) L S (lk_up σ o f 0 v) τ Q) : lk_W l X M d pc L (lk_vi v :: lk_vr o 0 :: S) σ τ Q := by
  subst hc
  intro p e s m args below meth c H locs ls C hP hD hS hl0
  have hf : f < lk_nf (lk_ko o) := lk_fk_lt (by omega)
  obtain ⟨q0, hq, hw⟩ := lk_at (X := X) (σ := σ) (τ := τ) (lk_mem0 (lk_ko_lt rfl hci))
  obtain ⟨Cn, ty0, h1, h2, h3, h4⟩ := lk_tab (lk_ko o) hci
  obtain ⟨t1, t2⟩ := (lk_tabk (lk_ko o) hci f hf).1 hk
  obtain ⟨e1, e2⟩ := lk_e_putI (X := X) (σ := σ) (τ := τ) (v := v) (Or.inl hk) hf
  have hts := C.2.2.2.2.2.1
  refine va_put C.1 C.2.1 hts (fun w hw => List.mem_cons_of_mem _ (h2 w hw)) ty0 h3 h4 C.2.2.2.2.1 C.2.2.2.2.2.2.2 hP hD hS q0 hw h1 f hf (hts _ (List.mem_cons_of_mem _ hl)) (fun _ h9 => h9) t2 (ty := .int) (v := .int v) t1 rfl rfl (by simpa using hf) hd (fun H1 locs1 hP1 hD1 hS1 => ?_)
  rw [e1, lk_set hq e2] at hP1
  exact k p e s m args below meth c H1 locs1 ls C hP1 (lk_D_any hD) hS1 hl0
theorem lk_putZ {o f ci idx : Nat} {v : Int32} (hd : decode M.2.1 pc = .ok (.putfield idx, 3)) (hc : lk_ko o = ci) (hl : lk_lk M.1.cls idx ci f ∈ lk_AW) (hci : ci < 10) (hk : (lk_fk ci f).1 = 5) (hv : v = 0 ∨ v = 1) (k : lk_W l X M d (pc + 3) L S (lk_up σ o f 0 v) τ Q) : lk_W l X M d pc L (lk_vi v :: lk_vr o 0 :: S) σ τ Q := by
  subst hc
  intro p e s m args below meth c H locs ls C hP hD hS hl0
  have hf : f < lk_nf (lk_ko o) := lk_fk_lt (by omega)
  obtain ⟨q0, hq, hw⟩ := lk_at (X := X) (σ := σ) (τ := τ) (lk_mem0 (lk_ko_lt rfl hci))
  obtain ⟨Cn, ty0, h1, h2, h3, h4⟩ := lk_tab (lk_ko o) hci
  obtain ⟨t1, t2⟩ := (lk_tabk (lk_ko o) hci f hf).2.1 hk
  obtain ⟨e1, e2⟩ := lk_e_putI (X := X) (σ := σ) (τ := τ) (v := v) (Or.inr hk) hf
  have hts := C.2.2.2.2.2.1
  refine va_put C.1 C.2.1 hts (fun w hw => List.mem_cons_of_mem _ (h2 w hw)) ty0 h3 h4 C.2.2.2.2.1 C.2.2.2.2.2.2.2 hP hD hS q0 hw h1 f hf (hts _ (List.mem_cons_of_mem _ hl)) (fun _ h9 => h9) t2 (ty := .boolean) (v := .int v) t1 (lk_n01 hv) (lk_f01 hv) (by simpa using hf) hd (fun H1 locs1 hP1 hD1 hS1 => ?_)
  rw [e1, lk_set hq e2] at hP1
  exact k p e s m args below meth c H1 locs1 ls C hP1 (lk_D_any hD) hS1 hl0
theorem lk_putL {o f ci idx : Nat} {v : Int64} (hd : decode M.2.1 pc = .ok (.putfield idx, 3)) (hc : lk_ko o = ci) (hl : lk_lk M.1.cls idx ci f ∈ lk_AW) (hci : ci < 10) (hk : (lk_fk ci f).1 = 1) (k : lk_W l X M d (pc + 3) L S σ (lk_ut τ o f v) Q) : lk_W l X M d pc L (lk_vl v :: lk_vr o 0 :: S) σ τ Q := by
  subst hc
  intro p e s m args below meth c H locs ls C hP hD hS hl0
  have hf : f < lk_nf (lk_ko o) := lk_fk_lt (by omega)
  obtain ⟨q0, hq, hw⟩ := lk_at (X := X) (σ := σ) (τ := τ) (lk_mem0 (lk_ko_lt rfl hci))
  obtain ⟨Cn, ty0, h1, h2, h3, h4⟩ := lk_tab (lk_ko o) hci
  obtain ⟨t1, t2⟩ := (lk_tabk (lk_ko o) hci f hf).2.2 hk
  obtain ⟨e1, e2⟩ := lk_e_putL (X := X) (σ := σ) (τ := τ) (v := v) hk hf
  have hts := C.2.2.2.2.2.1
  refine va_put C.1 C.2.1 hts (fun w hw => List.mem_cons_of_mem _ (h2 w hw)) ty0 h3 h4 C.2.2.2.2.1 C.2.2.2.2.2.2.2 hP hD hS q0 hw h1 f hf (hts _ (List.mem_cons_of_mem _ hl)) (fun _ h9 => h9) t2 (ty := .long) (v := .long v) t1 rfl rfl (by simpa using hf) hd (fun H1 locs1 hP1 hD1 hS1 => ?_)
  rw [e1, lk_set hq e2] at hP1
  exact k p e s m args below meth c H1 locs1 ls C hP1 (lk_D_any hD) hS1 hl0
/-! rows of numbers -/
theorem lk_cellR {σ : lk_N} {τ : lk_T} {X : lk_G} {o f ci : Nat} (hc : lk_ko o = ci) (hk : (lk_fk ci f).1 = 2) : lk_e X σ τ (o, f + 1) = .inl (X.2.2.1, (lk_fk ci f).2, .inl (σ o f)) := by subst hc; simp [lk_e, hk]
theorem lk_cellZ {σ : lk_N} {τ : lk_T} {X : lk_G} {o f ci : Nat} (hc : lk_ko o = ci) (hk : (lk_fk ci f).1 = 3) : lk_e X σ τ (o, f + 1) = .inl (X.2.2.2, (lk_fk ci f).2, .inl (σ o f)) := by subst hc; simp [lk_e, hk]
theorem lk_iald {o f ci n : Nat} {i : Int32} (hd : decode M.2.1 pc = .ok (.iaload, 1)) (hc : lk_ko o = ci) (hci : ci < 10) (hk : lk_fk ci f = (2, n)) (hin : vp_in i n) (k : lk_W l X M d (pc + 1) L (lk_vi (σ o f i.toNatClampNeg) :: S) σ τ Q) : lk_W l X M d pc L (lk_vi i :: lk_vr o (f + 1) :: S) σ τ Q := by
  intro p e s m args below meth c H locs ls C hP hD hS hl0
  have hk1 : (lk_fk ci f).1 = 2 := by rw [hk]
  obtain ⟨q0, hq, hw⟩ := lk_at (X := X) (σ := σ) (τ := τ) (lk_memR (f := f) (lk_ko_lt hc hci) (Or.inl (by rw [hc]; exact hk1)))
  rw [lk_cellR hc hk1, hk] at hw
  exact va_iald C.1 C.2.1 C.2.2.2.2.2.2.2 hP q0 0 hw rfl hin hd (k p e s m args below meth c H locs ls C hP hD hS hl0)
theorem lk_zald {o f ci n : Nat} {i : Int32} (hd : decode M.2.1 pc = .ok (.baload, 1)) (hc : lk_ko o = ci) (hci : ci < 10) (hk : lk_fk ci f = (3, n)) (hin : vp_in i n) (k : lk_W l X M d (pc + 1) L (lk_vi (σ o f i.toNatClampNeg) :: S) σ τ Q) : lk_W l X M d pc L (lk_vi i :: lk_vr o (f + 1) :: S) σ τ Q := by
  intro p e s m args below meth c H locs ls C hP hD hS hl0
  have hk1 : (lk_fk ci f).1 = 3 := by rw [hk]
  obtain ⟨q0, hq, hw⟩ := lk_at (X := X) (σ := σ) (τ := τ) (lk_memR (f := f) (lk_ko_lt hc hci) (Or.inr (by rw [hc]; exact hk1)))
  rw [lk_cellZ hc hk1, hk] at hw
  exact va_zald C.1 C.2.1 C.2.2.2.2.2.2.2 hP q0 1 hw rfl hin hd (k p e s m args below meth c H locs ls C hP hD hS hl0)
theorem lk_iast {o f ci n : Nat} {i v : Int32} (hd : decode M.2.1 pc = .ok (.iastore, 1)) (hc : lk_ko o = ci) (hci : ci < 10) (hk : lk_fk ci f = (2, n)) (hin : vp_in i n) (k : lk_W l X M d (pc + 1) L S (lk_up σ o f i.toNatClampNeg v) τ Q) : lk_W l X M d pc L (lk_vi v :: lk_vi i :: lk_vr o (f + 1) :: S) σ τ Q := by
  intro p e s m args below meth c H locs ls C hP hD hS hl0
  have hk1 : (lk_fk (lk_ko o) f).1 = 2 := by rw [hc, hk]
  obtain ⟨q0, hq, hw⟩ := lk_at (X := X) (σ := σ) (τ := τ) (lk_memR (f := f) (lk_ko_lt hc hci) (Or.inl hk1))
  rw [lk_cellR hc (by rw [hk]), hk] at hw
  obtain ⟨e1, e2⟩ := lk_e_row (X := X) (τ := τ) (lk_up_row σ o f i.toNatClampNeg v) (Or.inl hk1)
  refine va_iast C.1 C.2.1 C.2.2.2.2.2.2.2 hP hD hS q0 0 hw rfl hin hd (fun H1 locs1 hP1 hD1 hS1 => ?_)
  rw [if_neg (by rw [hk1]; decide), hc, hk] at e1
  rw [e1, lk_set hq e2] at hP1
  exact k p e s m args below meth c H1 locs1 ls C hP1 (lk_D_any hD) hS1 hl0
theorem lk_zast {o f ci n : Nat} {i v : Int32} (hd : decode M.2.1 pc = .ok (.bastore, 1)) (hc : lk_ko o = ci) (hci : ci < 10) (hk : lk_fk ci f = (3, n)) (hin : vp_in i n) (hv : v = 0 ∨ v = 1) (k : lk_W l X M d (pc + 1) L S (lk_up σ o f i.toNatClampNeg v) τ Q) : lk_W l X M d pc L (lk_vi v :: lk_vi i :: lk_vr o (f + 1) :: S) σ τ Q := by
  intro p e s m args below meth c H locs ls C hP hD hS hl0
  have hk1 : (lk_fk (lk_ko o) f).1 = 3 := by rw [hc, hk]
  obtain ⟨q0, hq, hw⟩ := lk_at (X := X) (σ := σ) (τ := τ) (lk_memR (f := f) (lk_ko_lt hc hci) (Or.inr hk1))
  rw [lk_cellZ hc (by rw [hk]), hk] at hw
  obtain ⟨e1, e2⟩ := lk_e_row (X := X) (τ := τ) (lk_up_row σ o f i.toNatClampNeg v) (Or.inr hk1)
  refine va_zast C.1 C.2.1 C.2.2.2.2.2.2.2 hP hD hS q0 1 hw rfl hin hd (fun H1 locs1 hP1 hD1 hS1 => ?_)
  rw [if_pos hk1, hc, hk] at e1
  rw [lk_r01 hv, e1, lk_set hq e2] at hP1
  exact k p e s m args below meth c H1 locs1 ls C hP1 (lk_D_any hD) hS1 hl0
theorem lk_alenI {o f ci n : Nat} {v : Int32} (hd : decode M.2.1 pc = .ok (.arraylength, 1)) (hc : lk_ko o = ci) (hci : ci < 10) (hk : lk_fk ci f = (2, n)) (hv : Int32.ofNat n = v) (k : lk_W l X M d (pc + 1) L (lk_vi v :: S) σ τ Q) : lk_W l X M d pc L (lk_vr o (f + 1) :: S) σ τ Q := by
  intro p e s m args below meth c H locs ls C hP hD hS hl0
  have hk1 : (lk_fk ci f).1 = 2 := by rw [hk]
  obtain ⟨q0, hq, hw⟩ := lk_at (X := X) (σ := σ) (τ := τ) (lk_memR (f := f) (lk_ko_lt hc hci) (Or.inl (by rw [hc]; exact hk1)))
  rw [lk_cellR hc hk1, hk] at hw
  exact va_alen C.1 C.2.1 C.2.2.2.2.2.2.2 hP q0 0 hw rfl hv hd (k p e s m args below meth c H locs ls C hP hD hS hl0)
/-! answers -/
theorem lk_iret {v : Int32} (ty : FieldType) (hd : decode M.2.1 pc = .ok (.ireturn, 1)) (hr : M.2.2.2 = some ty) (hn : narrow ty (.int v) = .int v) (hQ : Q (some (lk_vi v)) σ τ) : lk_W l X M d pc L [lk_vi v] σ τ Q := by
  intro p e s m args below meth c H locs ls C hP hD hS hl0
  have hlocks := C.2.2.2.2.2.2.1
  exact W.zret (v := v) C.1 C.2.1 (by rw [C.2.2.1, hr]) hn (fun t ht hW => ⟨⟨some (lk_vi v), σ, τ, rfl, hQ, by rw [ht]; exact hP, va_K.moved hW.alike C.2.2.2.2.2.2.2, hD⟩, hS.F ht⟩) hS.2.2 hd hlocks
theorem lk_lret {v : Int64} (hd : decode M.2.1 pc = .ok (.lreturn, 1)) (hr : M.2.2.2 = some .long) (hQ : Q (some (lk_vl v)) σ τ) : lk_W l X M d pc L [lk_vl v] σ τ Q := by
  intro p e s m args below meth c H locs ls C hP hD hS hl0
  have hlocks := C.2.2.2.2.2.2.1
  exact W.lret (v := v) C.1 C.2.1 (by rw [C.2.2.1, hr]) (fun t ht hW => ⟨⟨some (lk_vl v), σ, τ, rfl, hQ, by rw [ht]; exact hP, va_K.moved hW.alike C.2.2.2.2.2.2.2, hD⟩, hS.F ht⟩) hS.2.2 hd hlocks
theorem lk_vret (hd : decode M.2.1 pc = .ok (.return_, 1)) (hr : M.2.2.2 = none) (hQ : Q none σ τ) : lk_W l X M d pc L [] σ τ Q := by
  intro p e s m args below meth c H locs ls C hP hD hS hl0
  have hlocks := C.2.2.2.2.2.2.1
  exact W.vret C.1 C.2.1 (by rw [C.2.2.1, hr]) (fun t ht hW => ⟨⟨none, σ, τ, rfl, hQ, by rw [ht]; exact hP, va_K.moved hW.alike C.2.2.2.2.2.2.2, hD⟩, hS.F ht⟩) hS.2.2 hd hlocks
end LKR
end
section
/-! methods and calls of the pure judgement -/
def lk_args : Nat → List lk_V → List (Nat × lk_V)
  | _, [] => []
  | i, v :: vs => (i, v) :: lk_args (if lk_cat v = 2 then i + 2 else i + 1) vs
theorem lk_args_c (X : lk_G) : ∀ (vs : List lk_V) (i : Nat), lv_args i (vs.map (lk_c X.1)) = lk_lc X (lk_args i vs)
  | [], _ => rfl
  | v :: vs, i => by
    show (i, lk_c X.1 v) :: lv_args _ _ = (i, lk_c X.1 v) :: lk_lc X _
    rw [lk_args_c X vs, lk_c_cat]
theorem lk_sl_len (X : lk_G) : ∀ (vs : List lk_V), (lg_sl (vs.map (lk_c X.1))).length = (vs.map lk_cat).sum
  | [] => rfl
  | v :: vs => by
    have ih := lk_sl_len X vs
    have hc := lk_c_cat X.1 v
    simp only [lg_sl, List.map_cons, List.flatMap_cons, List.length_append, List.sum_cons] at ih ⊢
    rw [ih]
    congr 1
    rcases v with x | x | q <;> rfl
theorem lk_met {l : Launch} {X : lk_G} {M : lk_M} {d : Nat} {args : List lk_V} {σ : lk_N} {τ : lk_T} {Q : lk_Q} {L : List (Nat × lk_V)} (hy : plainName M.1.cls = true) (hlen : (args.map lk_cat).sum ≤ M.2.2.1) (hL : lk_args 0 args = L) (k : lk_W l X M d 0 L [] σ τ Q) : lk_Mt l X M d args σ τ Q := by
  subst hL
  refine Met.ofW (cc := M.2.1) (maxL := M.2.2.1) (ret := M.2.2.2) hy rfl ?_
  intro p e s m args' below meth c s₁ B hml hv
  obtain ⟨rfl, hP, hK, hD⟩ := hv
  have hts := atoms_spec (ws := lk_wd M) B.pre
  rw [lg_entry_eq]
  have hl := lv_entry (args.map (lk_c X.1)) (n := M.2.2.1) (by rw [lk_sl_len]; exact hlen)
  rw [lk_args_c] at hl
  exact k p e s m _ below meth c s.heap [] _ ⟨B.exec, B.bytes, B.returns, hml, findClass_of_methodNamed B.named, hts, B.notSynchronized, hK⟩ hP hD va_S.rf hl
theorem lk_Mt_mono {l : Launch} {X : lk_G} {M : lk_M} {d : Nat} {args : List lk_V} {σ : lk_N} {τ : lk_T} {Q Q' : lk_Q} (h : lk_Mt l X M d args σ τ Q') (hQ : ∀ r a b, Q' r a b → Q r a b) : lk_Mt l X M d args σ τ Q := by
  intro p e ha hc hk s m as below hf happ hpre hsp
  obtain ⟨t, o, h1, h2, h3, ⟨⟨r, a, b, q1, q2, q3⟩, q4⟩, h5⟩ := h p e ha hc hk s m as below hf happ hpre hsp
  exact ⟨t, o, h1, h2, h3, ⟨⟨r, a, b, q1, hQ r a b q2, q3⟩, q4⟩, h5⟩
theorem lk_H_calling {X : lk_G} {σ : lk_N} {τ : lk_T} {U : State} {g : JFrame} {mk : MethodId} {a : Array Value} (h : lk_H X σ τ U) : lk_H X σ τ (U.calling g mk a) :=
  ⟨h.1, va_K.moved (u := U) (U := U.calling g mk a) (Vm.Alike.refl U.vm) h.2.1, h.2.2⟩
section LKC
variable {l : Launch} {X : lk_G} {M : lk_M} {d pc : Nat} {L : List (Nat × lk_V)} {S : List lk_V} {σ : lk_N} {τ : lk_T} {Q : lk_Q}
/-- behind a call -/
theorem lk_after {Q' : lk_Q} {p : Program} {e : Env} {s : State} {m : MethodId} {args : Array Value} {below : List Frame} {meth : Method} {c : Code} {H : Heap} {locs : List Loc} {ls : Array Slot} {st0 : List Value} {R : Room} {aa : Array Value} {Qw : State → Prop}
    (hr : va_Run p l e R s m args below meth c H locs 0 0 0 0 (F0 m pc ls st0) (S.map (lk_c X.1)) (lk_Qc X Q' aa) (lk_A X)) (hS : va_S (lk_A X) s.heap H locs)
    (kk : ∀ (r : Option lk_V) (σ' : lk_N) (τ' : lk_T) (H1 : Heap) (locs1 : List Loc), Q' r σ' τ' → va_P X.2.1 vwCl (lk_ws X σ' τ') H1 → va_D (lk_A X) (lk_ws X σ' τ') → va_S (lk_A X) s.heap H1 locs1 → W p l e R s m args below meth c H1 locs1 0 0 Qw (F0 m (pc + 3) ls ((r.toList ++ S).map (lk_c X.1)))) : W p l e R s m args below meth c H locs 0 0 Qw (F0 m pc ls st0) := by
  intro T hT X0
  obtain ⟨v, st₀, t, T', Lc, h0, X', hL, e1, e2, ⟨⟨r, σ', τ', hv, hq, hP, hK, hD⟩, hz, hk⟩, st⟩ := hr T hT X0
  have hv' : v = r.map (lk_c X.1) := by cases hv; rfl
  rw [h0] at hz hk
  have hS' : va_S (lk_A X) s.heap T'.heap (locs ++ Lc) := ⟨Nat.le_trans hS.1 (by rw [e1]; exact hz), fun q h1 h2 => by rw [e1, hk q (Nat.lt_of_lt_of_le h1 hS.1) h2]; exact hS.2.1 q h1 h2, fun q hq => by
      rcases List.mem_append.mp hq with h | h
      · exact hS.2.2 q h
      · exact hL q h⟩
  obtain ⟨t2, a1, b1⟩ := kk r σ' τ' T'.heap (locs ++ Lc) hq (by rw [e1]; exact hP) hD hS' T' rfl X'
  refine ⟨t2, st t2 ?_, b1⟩
  subst hv'
  have : (r.map (lk_c X.1)).toList ++ S.map (lk_c X.1) = (r.toList ++ S).map (lk_c X.1) := by cases r <;> rfl
  rw [this]
  exact a1
theorem lk_rest {S : List lk_V} (γ : Nat → Nat → Nat) (h : (S.map lk_cat).sum ≤ 8) : ((S.map (lk_c γ)).map fun v => v.category).sum ≤ 8 := by
  have : (S.map (lk_c γ)).map (fun v => v.category) = S.map lk_cat := by
    rw [List.map_map]
    exact List.map_congr_left (fun v _ => lk_c_cat γ v)
  rw [this]; exact h
theorem lk_callV {M' : lk_M} {n idx o ci : Nat} {as : List lk_V} {S0 : List lk_V} {Q' : lk_Q} (hd : decode M.2.1 pc = .ok (.invokevirtual idx, 3)) (hs : S0 = as.reverse ++ lk_vr o 0 :: S) (cv : lk_cv M' n) (hn : as.length = n) (hl : Cond.methodLink M.1.cls idx M'.1 ∈ lk_AW) (hc : lk_ko o = ci) (hci : (vwCl[ci]?).map (fun q => q.1) = some M'.1.cls) (hroom : (S.map lk_cat).sum ≤ 8)
    (hM : lk_Mt l X M' d (lk_vr o 0 :: as) σ τ Q') (k : ∀ (r : Option lk_V) (σ' : lk_N) (τ' : lk_T), Q' r σ' τ' → lk_W l X M (d + 1) (pc + 3) L (r.toList ++ S) σ' τ' Q) : lk_W l X M (d + 1) pc L S0 σ τ Q := by
  subst hs
  intro p e s m args below meth c H locs ls C hP hD hS hl0
  obtain ⟨hx, hb, hr, hml, hown, hts, hlk, hK⟩ := C
  obtain ⟨w1, w2, w3, w4, ⟨w5, w6, w7⟩, w8⟩ := cv
  have hin : ∀ w ∈ lk_AW, w.before args s = true := fun w h => hts w (List.mem_cons_of_mem _ h)
  obtain ⟨q, hq1, hq2⟩ := Option.map_eq_some_iff.mp hci
  have hci10 : ci < 10 := (List.getElem?_eq_some_iff.mp hq1).1
  obtain ⟨q0, hq0, hw0⟩ := lk_at (X := X) (σ := σ) (τ := τ) (lk_mem0 (lk_ko_lt hc hci10))
  have hrec := va_recv hK hP (ci := ci) (q := q) hq1 (q0 := q0) (a := X.1 o 0) (fs := (List.range (lk_nf (lk_ko o))).map (lk_fv X.1 σ τ o)) (by rw [hw0, ← hc]; rfl)
  rw [hq2] at hrec
  have hfb : FrameBlind (va_Pc ((lk_vr o 0 :: as).map (lk_c X.1)) (lk_H X σ τ)) := fun a U g mk q => ⟨q.1, lk_H_calling q.2⟩
  refine lk_after (S := S) (va_runV (As := as.map (lk_c X.1)) (n := n) (index := idx) (C := M'.1.cls) (ret := M'.2.2.2) (bytes := M'.2.1) (maxL := M'.2.2.1) ⟨hx, hb, hml, hown, hts⟩ hM ⟨callB_of n hts (lk_good w4) rfl rfl rfl (hin _ w3) (hin _ hl) ⟨w5, w6, w7⟩ ⟨Nat.le_refl _, by show 8 + (M'.2.2.1 + 11) + 40 * d ≤ 40 * (d + 1); omega⟩, hin _ w1, hin _ w2⟩ ⟨hfb, hrec, fun U hU hW => ⟨rfl, by rw [hU]; exact hP, va_K.moved hW.alike hK, hD⟩⟩ rfl (by simpa using hn) hl0.1 ?_ (lv_room (lk_rest X.1 hroom)) hd ⟨Nat.zero_le _, Nat.zero_le _⟩) hS (fun r σ' τ' H1 locs1 hq hP1 hD1 hS1 => k r σ' τ' hq p e s m args below meth c H1 locs1 ls ⟨hx, hb, hr, hml, hown, hts, hlk, hK⟩ hP1 hD1 hS1 hl0)
  show ((as.reverse ++ lk_vr o 0 :: S).map (lk_c X.1)) = _
  simp [lk_c]
theorem lk_callS {M' : lk_M} {n idx : Nat} {as : List lk_V} {S0 : List lk_V} {Q' : lk_Q} (hd : decode M.2.1 pc = .ok (.invokestatic idx, 3)) (hs : S0 = as.reverse ++ S) (cv : lk_cs M' n) (hn : as.length = n) (hl : Cond.methodLink M.1.cls idx M'.1 ∈ lk_AW) (hroom : (S.map lk_cat).sum ≤ 8)
    (hM : lk_Mt l X M' d as σ τ Q') (k : ∀ (r : Option lk_V) (σ' : lk_N) (τ' : lk_T), Q' r σ' τ' → lk_W l X M (d + 1) (pc + 3) L (r.toList ++ S) σ' τ' Q) : lk_W l X M (d + 1) pc L S0 σ τ Q := by
  subst hs
  intro p e s m args below meth c H locs ls C hP hD hS hl0
  obtain ⟨hx, hb, hr, hml, hown, hts, hlk, hK⟩ := C
  obtain ⟨w1, w3, w4, ⟨w5, w6, w7⟩, w8⟩ := cv
  have hin : ∀ w ∈ lk_AW, w.before args s = true := fun w h => hts w (List.mem_cons_of_mem _ h)
  have hfb : FrameBlind (va_Pc (as.map (lk_c X.1)) (lk_H X σ τ)) := fun a U g mk q => ⟨q.1, lk_H_calling q.2⟩
  refine lk_after (S := S) (va_runS (As := as.map (lk_c X.1)) (n := n) (index := idx) (ret := M'.2.2.2) (bytes := M'.2.1) (maxL := M'.2.2.1) ⟨hx, hb, hml, hown, hts⟩ hM ⟨callB_of n hts (lk_good w4) rfl rfl rfl (hin _ w3) (hin _ hl) ⟨w5, w6, w7⟩ ⟨Nat.le_refl _, by show 8 + (M'.2.2.1 + 11) + 40 * d ≤ 40 * (d + 1); omega⟩, hin _ w1⟩ ⟨hfb, fun U hU hW => ⟨rfl, by rw [hU]; exact hP, va_K.moved hW.alike hK, hD⟩⟩ rfl (by simpa using hn) hl0.1 ?_ (lv_room (lk_rest X.1 hroom)) hd ⟨Nat.zero_le _, Nat.zero_le _⟩) hS (fun r σ' τ' H1 locs1 hq hP1 hD1 hS1 => k r σ' τ' hq p e s m args below meth c H1 locs1 ls ⟨hx, hb, hr, hml, hown, hts, hlk, hK⟩ hP1 hD1 hS1 hl0)
  show ((as.reverse ++ S).map (lk_c X.1)) = _
  simp
/-! members of the library -/
theorem lk_mmax {idx : Nat} {x y : Int32} (hd : decode M.2.1 pc = .ok (.invokestatic idx, 3)) (hl : Cond.methodLink M.1.cls idx yJ9_max_7cf53 ∈ lk_AW) (hroom : (S.map lk_cat).sum ≤ 8) (k : lk_W l X M (d + 1) (pc + 3) L (lk_vi (if x < y then y else x) :: S) σ τ Q) : lk_W l X M (d + 1) pc L (lk_vi y :: lk_vi x :: S) σ τ Q := by
  intro p e s m args below meth c H locs ls C hP hD hS hl0
  obtain ⟨hx, hb, hr, hml, hown, hts, hlk, hK⟩ := id C
  have hin : ∀ w ∈ lk_AW, w.before args s = true := fun w h => hts w (List.mem_cons_of_mem _ h)
  have hroom' := lk_rest X.1 hroom
  exact va_mmax hx hb (by rw [hml]; exact hl0.1.symm) hown (hin _ hl) (hin _ vJ9_max_7cf53.1) (hin _ vJ9_max_7cf53.2.1) (hin _ vJ9_max_7cf53.2.2.1) (by show 1 ≤ d + 1; omega) (by show _ + 13 ≤ 40 * (d + 1); omega) (Nat.zero_le _) (Nat.zero_le _) hd (k p e s m args below meth c H locs ls C hP hD hS hl0)
theorem lk_mmin {idx : Nat} {x y : Int32} (hd : decode M.2.1 pc = .ok (.invokestatic idx, 3)) (hl : Cond.methodLink M.1.cls idx yJ9_min_7cf53 ∈ lk_AW) (hroom : (S.map lk_cat).sum ≤ 8) (k : lk_W l X M (d + 1) (pc + 3) L (lk_vi (if y < x then y else x) :: S) σ τ Q) : lk_W l X M (d + 1) pc L (lk_vi y :: lk_vi x :: S) σ τ Q := by
  intro p e s m args below meth c H locs ls C hP hD hS hl0
  obtain ⟨hx, hb, hr, hml, hown, hts, hlk, hK⟩ := id C
  have hin : ∀ w ∈ lk_AW, w.before args s = true := fun w h => hts w (List.mem_cons_of_mem _ h)
  have hroom' := lk_rest X.1 hroom
  exact va_mmin hx hb (by rw [hml]; exact hl0.1.symm) hown (hin _ hl) (hin _ vJ9_min_7cf53.1) (hin _ vJ9_min_7cf53.2.1) (hin _ vJ9_min_7cf53.2.2.1) (by show 1 ≤ d + 1; omega) (by show _ + 13 ≤ 40 * (d + 1); omega) (Nat.zero_le _) (Nat.zero_le _) hd (k p e s m args below meth c H locs ls C hP hD hS hl0)
/-- n numbers of a row over those of another, from place 0 on -/
def lk_cp (σ : lk_N) (o f o' f' n : Nat) : lk_N := fun a b i => if a = o' ∧ b = f' then (if i < n then σ o f i else σ o' f' i) else σ a b i
theorem lk_copy {idx o f o' f' ci ci' n0 n1 : Nat} {n : Int32} {k0 : Nat} (hd : decode M.2.1 pc = .ok (.invokestatic idx, 3)) (hl : Cond.methodLink M.1.cls idx arraycopyName ∈ lk_AW) (hnat : Cond.native arraycopyName ∈ lk_AW) (hstat : Cond.static arraycopyName ∈ lk_AW) (hini : Cond.initialized "java/lang/System" ∈ lk_AW) (hc : lk_ko o = ci) (hci : ci < 10) (hk : lk_fk ci f = (2, n0)) (hc' : lk_ko o' = ci') (hci' : ci' < 10) (hk' : lk_fk ci' f' = (2, n1)) (hn : ¬ n < 0) (hn0 : n.toNatClampNeg = k0) (h0 : k0 ≤ n0) (h1 : k0 ≤ n1) (hroom : (S.map lk_cat).sum ≤ 8)
    (k : lk_W l X M (d + 2) (pc + 3) L S (lk_cp σ o f o' f' k0) τ Q) : lk_W l X M (d + 2) pc L (lk_vi n :: lk_vi 0 :: lk_vr o' (f' + 1) :: lk_vi 0 :: lk_vr o (f + 1) :: S) σ τ Q := by
  intro p e s m args below meth c H locs ls C hP hD hS hl0
  obtain ⟨hx, hb, hr, hml, hown, hts, hlk, hK⟩ := id C
  have hin : ∀ w ∈ lk_AW, w.before args s = true := fun w h => hts w (List.mem_cons_of_mem _ h)
  have hk1 : (lk_fk (lk_ko o) f).1 = 2 := by rw [hc, hk]
  have hk1' : (lk_fk (lk_ko o') f').1 = 2 := by rw [hc', hk']
  obtain ⟨q0, hq, hw⟩ := lk_at (X := X) (σ := σ) (τ := τ) (lk_memR (f := f) (lk_ko_lt hc hci) (Or.inl hk1))
  obtain ⟨q1, hq', hw'⟩ := lk_at (X := X) (σ := σ) (τ := τ) (lk_memR (f := f') (lk_ko_lt hc' hci') (Or.inl hk1'))
  rw [lk_cellR hc (by rw [hk]), hk] at hw
  rw [lk_cellR hc' (by rw [hk']), hk'] at hw'
  have hz : (0 : Int32).toNatClampNeg = 0 := rfl
  have hroom' := lk_rest X.1 hroom
  have hrow : ∀ a b i, lk_cp σ o f o' f' k0 a b i = if a = o' ∧ b = f' then va_cpy (σ o f) (σ o' f') 0 0 n.toNatClampNeg i else σ a b i := by
    intro a b i
    simp only [lk_cp, va_cpy, hn0, Nat.zero_le, true_and, Nat.zero_add, Nat.sub_zero]
  obtain ⟨e1, e2⟩ := lk_e_row (X := X) (τ := τ) hrow (Or.inl hk1')
  refine va_copyi hx hb (by rw [hml]; exact hl0.1.symm) hown (hin _ hl) (hin _ hnat) (hin _ hstat) (hin _ hini) hK hP hD hS q0 q1 0 0 hw hw' rfl rfl rfl (sp := 0) (dp := 0) (by decide) (by decide) hn (by rw [hz, hn0]; omega) (by rw [hz, hn0]; omega) (fun i _ => rfl) (by show 1 ≤ d + 2; omega) ?_ hd (fun H1 locs1 hP1 hD1 hS1 => ?_)
  · have : nativeFrameWords "java/lang/System" "arraycopy" 5 ≤ 40 := by decide +kernel
    show _ + _ ≤ 40 * (d + 2)
    omega
  · rw [hz] at hP1
    rw [if_neg (by rw [hk1']; decide), hc', hk'] at e1
    rw [e1, lk_set hq' e2] at hP1
    exact k p e s m args below meth c H1 locs1 ls C hP1 (lk_D_any hD) hS1 hl0
end LKC
end
