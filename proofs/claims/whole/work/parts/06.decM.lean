theorem dX9_init_0 : decode cX9_init 0 = .ok (.aload_n 0, 1) := by decide +kernel
theorem dX9_init_1 : decode cX9_init 1 = .ok (.invokespecial 3, 3) := by decide +kernel
theorem dX9_init_4 : decode cX9_init 4 = .ok (.aload_n 0, 1) := by decide +kernel
theorem dX9_init_5 : decode cX9_init 5 = .ok (.sipush 235, 3) := by decide +kernel
theorem dX9_init_8 : decode cX9_init 8 = .ok (.newarray .int, 2) := by decide +kernel
theorem dX9_init_10 : decode cX9_init 10 = .ok (.putfield 9, 3) := by decide +kernel
theorem dX9_init_13 : decode cX9_init 13 = .ok (.aload_n 0, 1) := by decide +kernel
theorem dX9_init_14 : decode cX9_init 14 = .ok (.sipush 235, 3) := by decide +kernel
theorem dX9_init_17 : decode cX9_init 17 = .ok (.newarray .int, 2) := by decide +kernel
theorem dX9_init_19 : decode cX9_init 19 = .ok (.putfield 15, 3) := by decide +kernel
theorem dX9_init_22 : decode cX9_init 22 = .ok (.aload_n 0, 1) := by decide +kernel
theorem dX9_init_23 : decode cX9_init 23 = .ok (.sipush 235, 3) := by decide +kernel
theorem dX9_init_26 : decode cX9_init 26 = .ok (.newarray .int, 2) := by decide +kernel
theorem dX9_init_28 : decode cX9_init 28 = .ok (.putfield 18, 3) := by decide +kernel
theorem dX9_init_31 : decode cX9_init 31 = .ok (.aload_n 0, 1) := by decide +kernel
theorem dX9_init_32 : decode cX9_init 32 = .ok (.iconst 4, 1) := by decide +kernel
theorem dX9_init_33 : decode cX9_init 33 = .ok (.newarray .int, 2) := by decide +kernel
theorem dX9_init_35 : decode cX9_init 35 = .ok (.putfield 21, 3) := by decide +kernel
theorem dX9_init_38 : decode cX9_init 38 = .ok (.aload_n 0, 1) := by decide +kernel
theorem dX9_init_39 : decode cX9_init 39 = .ok (.bipush 60, 2) := by decide +kernel
theorem dX9_init_41 : decode cX9_init 41 = .ok (.newarray .int, 2) := by decide +kernel
theorem dX9_init_43 : decode cX9_init 43 = .ok (.putfield 24, 3) := by decide +kernel
theorem dX9_init_46 : decode cX9_init 46 = .ok (.aload_n 0, 1) := by decide +kernel
theorem dX9_init_47 : decode cX9_init 47 = .ok (.bipush 60, 2) := by decide +kernel
theorem dX9_init_49 : decode cX9_init 49 = .ok (.newarray .int, 2) := by decide +kernel
theorem dX9_init_51 : decode cX9_init 51 = .ok (.putfield 27, 3) := by decide +kernel
theorem dX9_init_54 : decode cX9_init 54 = .ok (.aload_n 0, 1) := by decide +kernel
theorem dX9_init_55 : decode cX9_init 55 = .ok (.bipush 12, 2) := by decide +kernel
theorem dX9_init_57 : decode cX9_init 57 = .ok (.newarray .int, 2) := by decide +kernel
theorem dX9_init_59 : decode cX9_init 59 = .ok (.putfield 30, 3) := by decide +kernel
theorem dX9_init_62 : decode cX9_init 62 = .ok (.aload_n 0, 1) := by decide +kernel
theorem dX9_init_63 : decode cX9_init 63 = .ok (.bipush 12, 2) := by decide +kernel
theorem dX9_init_65 : decode cX9_init 65 = .ok (.newarray .int, 2) := by decide +kernel
theorem dX9_init_67 : decode cX9_init 67 = .ok (.putfield 33, 3) := by decide +kernel
theorem dX9_init_70 : decode cX9_init 70 = .ok (.aload_n 0, 1) := by decide +kernel
theorem dX9_init_71 : decode cX9_init 71 = .ok (.bipush 12, 2) := by decide +kernel
theorem dX9_init_73 : decode cX9_init 73 = .ok (.newarray .int, 2) := by decide +kernel
theorem dX9_init_75 : decode cX9_init 75 = .ok (.putfield 36, 3) := by decide +kernel
theorem dX9_init_78 : decode cX9_init 78 = .ok (.aload_n 0, 1) := by decide +kernel
theorem dX9_init_79 : decode cX9_init 79 = .ok (.bipush 12, 2) := by decide +kernel
theorem dX9_init_81 : decode cX9_init 81 = .ok (.newarray .int, 2) := by decide +kernel
theorem dX9_init_83 : decode cX9_init 83 = .ok (.putfield 39, 3) := by decide +kernel
theorem dX9_init_86 : decode cX9_init 86 = .ok (.aload_n 0, 1) := by decide +kernel
theorem dX9_init_87 : decode cX9_init 87 = .ok (.iconst 2, 1) := by decide +kernel
theorem dX9_init_88 : decode cX9_init 88 = .ok (.invokevirtual 42, 3) := by decide +kernel
theorem dX9_init_91 : decode cX9_init 91 = .ok (.return_, 1) := by decide +kernel
theorem dX9_within_0 : decode cX9_within 0 = .ok (.iload_n 0, 1) := by decide +kernel
theorem dX9_within_1 : decode cX9_within 1 = .ok (.iload_n 1, 1) := by decide +kernel
theorem dX9_within_2 : decode cX9_within 2 = .ok (.if_icmp .lt 12, 3) := by decide +kernel
theorem dX9_within_5 : decode cX9_within 5 = .ok (.iload_n 0, 1) := by decide +kernel
theorem dX9_within_6 : decode cX9_within 6 = .ok (.iload_n 2, 1) := by decide +kernel
theorem dX9_within_7 : decode cX9_within 7 = .ok (.if_icmp .gt 7, 3) := by decide +kernel
theorem dX9_within_10 : decode cX9_within 10 = .ok (.iconst 1, 1) := by decide +kernel
theorem dX9_within_11 : decode cX9_within 11 = .ok (.goto 4, 3) := by decide +kernel
theorem dX9_within_14 : decode cX9_within 14 = .ok (.iconst 0, 1) := by decide +kernel
theorem dX9_within_15 : decode cX9_within 15 = .ok (.ireturn, 1) := by decide +kernel
theorem dX9_begins_0 : decode cX9_begins 0 = .ok (.iconst 0, 1) := by decide +kernel
theorem dX9_begins_1 : decode cX9_begins 1 = .ok (.istore_n 2, 1) := by decide +kernel
theorem dX9_begins_2 : decode cX9_begins 2 = .ok (.iload_n 2, 1) := by decide +kernel
theorem dX9_begins_3 : decode cX9_begins 3 = .ok (.bipush 6, 2) := by decide +kernel
theorem dX9_begins_5 : decode cX9_begins 5 = .ok (.if_icmp .ge 49, 3) := by decide +kernel
theorem dX9_begins_8 : decode cX9_begins 8 = .ok (.aload_n 0, 1) := by decide +kernel
theorem dX9_begins_9 : decode cX9_begins 9 = .ok (.getfield 9, 3) := by decide +kernel
theorem dX9_begins_12 : decode cX9_begins 12 = .ok (.iconst 0, 1) := by decide +kernel
theorem dX9_begins_13 : decode cX9_begins 13 = .ok (.iload_n 2, 1) := by decide +kernel
theorem dX9_begins_14 : decode cX9_begins 14 = .ok (.iadd, 1) := by decide +kernel
theorem dX9_begins_15 : decode cX9_begins 15 = .ok (.bipush 20, 2) := by decide +kernel
theorem dX9_begins_17 : decode cX9_begins 17 = .ok (.iastore, 1) := by decide +kernel
theorem dX9_begins_18 : decode cX9_begins 18 = .ok (.aload_n 0, 1) := by decide +kernel
theorem dX9_begins_19 : decode cX9_begins 19 = .ok (.getfield 9, 3) := by decide +kernel
theorem dX9_begins_22 : decode cX9_begins 22 = .ok (.bipush 6, 2) := by decide +kernel
theorem dX9_begins_24 : decode cX9_begins 24 = .ok (.iload_n 2, 1) := by decide +kernel
theorem dX9_begins_25 : decode cX9_begins 25 = .ok (.iadd, 1) := by decide +kernel
theorem dX9_begins_26 : decode cX9_begins 26 = .ok (.iconst 0, 1) := by decide +kernel
theorem dX9_begins_27 : decode cX9_begins 27 = .ok (.iastore, 1) := by decide +kernel
theorem dX9_begins_28 : decode cX9_begins 28 = .ok (.aload_n 0, 1) := by decide +kernel
theorem dX9_begins_29 : decode cX9_begins 29 = .ok (.getfield 9, 3) := by decide +kernel
theorem dX9_begins_32 : decode cX9_begins 32 = .ok (.bipush 12, 2) := by decide +kernel
theorem dX9_begins_34 : decode cX9_begins 34 = .ok (.iload_n 2, 1) := by decide +kernel
theorem dX9_begins_35 : decode cX9_begins 35 = .ok (.iadd, 1) := by decide +kernel
theorem dX9_begins_36 : decode cX9_begins 36 = .ok (.iconst 0, 1) := by decide +kernel
theorem dX9_begins_37 : decode cX9_begins 37 = .ok (.iastore, 1) := by decide +kernel
theorem dX9_begins_38 : decode cX9_begins 38 = .ok (.aload_n 0, 1) := by decide +kernel
theorem dX9_begins_39 : decode cX9_begins 39 = .ok (.getfield 9, 3) := by decide +kernel
theorem dX9_begins_42 : decode cX9_begins 42 = .ok (.bipush 18, 2) := by decide +kernel
theorem dX9_begins_44 : decode cX9_begins 44 = .ok (.iload_n 2, 1) := by decide +kernel
theorem dX9_begins_45 : decode cX9_begins 45 = .ok (.iadd, 1) := by decide +kernel
theorem dX9_begins_46 : decode cX9_begins 46 = .ok (.iconst 0, 1) := by decide +kernel
theorem dX9_begins_47 : decode cX9_begins 47 = .ok (.iastore, 1) := by decide +kernel
theorem dX9_begins_48 : decode cX9_begins 48 = .ok (.iinc 2 1, 3) := by decide +kernel
theorem dX9_begins_51 : decode cX9_begins 51 = .ok (.goto (-49), 3) := by decide +kernel
theorem dX9_begins_54 : decode cX9_begins 54 = .ok (.iconst 0, 1) := by decide +kernel
theorem dX9_begins_55 : decode cX9_begins 55 = .ok (.istore_n 2, 1) := by decide +kernel
theorem dX9_begins_56 : decode cX9_begins 56 = .ok (.iload_n 2, 1) := by decide +kernel
theorem dX9_begins_57 : decode cX9_begins 57 = .ok (.bipush 7, 2) := by decide +kernel
theorem dX9_begins_59 : decode cX9_begins 59 = .ok (.if_icmp .ge 53, 3) := by decide +kernel
theorem dX9_begins_62 : decode cX9_begins 62 = .ok (.aload_n 0, 1) := by decide +kernel
theorem dX9_begins_63 : decode cX9_begins 63 = .ok (.getfield 9, 3) := by decide +kernel
theorem dX9_begins_66 : decode cX9_begins 66 = .ok (.bipush 24, 2) := by decide +kernel
theorem dX9_begins_68 : decode cX9_begins 68 = .ok (.iload_n 2, 1) := by decide +kernel
theorem dX9_begins_69 : decode cX9_begins 69 = .ok (.iadd, 1) := by decide +kernel
theorem dX9_begins_70 : decode cX9_begins 70 = .ok (.sipush 500, 3) := by decide +kernel
theorem dX9_begins_73 : decode cX9_begins 73 = .ok (.iastore, 1) := by decide +kernel
theorem dX9_begins_74 : decode cX9_begins 74 = .ok (.aload_n 0, 1) := by decide +kernel
theorem dX9_begins_75 : decode cX9_begins 75 = .ok (.getfield 9, 3) := by decide +kernel
theorem dX9_begins_78 : decode cX9_begins 78 = .ok (.bipush 31, 2) := by decide +kernel
theorem dX9_begins_80 : decode cX9_begins 80 = .ok (.iload_n 2, 1) := by decide +kernel
theorem dX9_begins_81 : decode cX9_begins 81 = .ok (.iadd, 1) := by decide +kernel
theorem dX9_begins_82 : decode cX9_begins 82 = .ok (.iconst 0, 1) := by decide +kernel
theorem dX9_begins_83 : decode cX9_begins 83 = .ok (.iastore, 1) := by decide +kernel
theorem dX9_begins_84 : decode cX9_begins 84 = .ok (.aload_n 0, 1) := by decide +kernel
theorem dX9_begins_85 : decode cX9_begins 85 = .ok (.getfield 9, 3) := by decide +kernel
theorem dX9_begins_88 : decode cX9_begins 88 = .ok (.bipush 38, 2) := by decide +kernel
theorem dX9_begins_90 : decode cX9_begins 90 = .ok (.iload_n 2, 1) := by decide +kernel
theorem dX9_begins_91 : decode cX9_begins 91 = .ok (.iadd, 1) := by decide +kernel
theorem dX9_begins_92 : decode cX9_begins 92 = .ok (.sipush 9999, 3) := by decide +kernel
theorem dX9_begins_95 : decode cX9_begins 95 = .ok (.iastore, 1) := by decide +kernel
theorem dX9_begins_96 : decode cX9_begins 96 = .ok (.aload_n 0, 1) := by decide +kernel
theorem dX9_begins_97 : decode cX9_begins 97 = .ok (.getfield 9, 3) := by decide +kernel
theorem dX9_begins_100 : decode cX9_begins 100 = .ok (.bipush 45, 2) := by decide +kernel
theorem dX9_begins_102 : decode cX9_begins 102 = .ok (.iload_n 2, 1) := by decide +kernel
theorem dX9_begins_103 : decode cX9_begins 103 = .ok (.iadd, 1) := by decide +kernel
theorem dX9_begins_104 : decode cX9_begins 104 = .ok (.iconst 0, 1) := by decide +kernel
theorem dX9_begins_105 : decode cX9_begins 105 = .ok (.iastore, 1) := by decide +kernel
theorem dX9_begins_106 : decode cX9_begins 106 = .ok (.iinc 2 1, 3) := by decide +kernel
theorem dX9_begins_109 : decode cX9_begins 109 = .ok (.goto (-53), 3) := by decide +kernel
theorem dX9_begins_112 : decode cX9_begins 112 = .ok (.aload_n 0, 1) := by decide +kernel
theorem dX9_begins_113 : decode cX9_begins 113 = .ok (.getfield 9, 3) := by decide +kernel
theorem dX9_begins_116 : decode cX9_begins 116 = .ok (.bipush 52, 2) := by decide +kernel
theorem dX9_begins_118 : decode cX9_begins 118 = .ok (.iconst 0, 1) := by decide +kernel
theorem dX9_begins_119 : decode cX9_begins 119 = .ok (.iastore, 1) := by decide +kernel
theorem dX9_begins_120 : decode cX9_begins 120 = .ok (.aload_n 0, 1) := by decide +kernel
theorem dX9_begins_121 : decode cX9_begins 121 = .ok (.getfield 9, 3) := by decide +kernel
theorem dX9_begins_124 : decode cX9_begins 124 = .ok (.bipush 53, 2) := by decide +kernel
theorem dX9_begins_126 : decode cX9_begins 126 = .ok (.iload_n 1, 1) := by decide +kernel
theorem dX9_begins_127 : decode cX9_begins 127 = .ok (.iastore, 1) := by decide +kernel
theorem dX9_begins_128 : decode cX9_begins 128 = .ok (.aload_n 0, 1) := by decide +kernel
theorem dX9_begins_129 : decode cX9_begins 129 = .ok (.getfield 9, 3) := by decide +kernel
theorem dX9_begins_132 : decode cX9_begins 132 = .ok (.bipush 114, 2) := by decide +kernel
theorem dX9_begins_134 : decode cX9_begins 134 = .ok (.iconst 0, 1) := by decide +kernel
theorem dX9_begins_135 : decode cX9_begins 135 = .ok (.iastore, 1) := by decide +kernel
theorem dX9_begins_136 : decode cX9_begins 136 = .ok (.return_, 1) := by decide +kernel
theorem dX9_becomes_0 : decode cX9_becomes 0 = .ok (.aload_n 0, 1) := by decide +kernel
theorem dX9_becomes_1 : decode cX9_becomes 1 = .ok (.getfield 9, 3) := by decide +kernel
theorem dX9_becomes_4 : decode cX9_becomes 4 = .ok (.iload_n 1, 1) := by decide +kernel
theorem dX9_becomes_5 : decode cX9_becomes 5 = .ok (.iaload, 1) := by decide +kernel
theorem dX9_becomes_6 : decode cX9_becomes 6 = .ok (.istore_n 3, 1) := by decide +kernel
theorem dX9_becomes_7 : decode cX9_becomes 7 = .ok (.aload_n 0, 1) := by decide +kernel
theorem dX9_becomes_8 : decode cX9_becomes 8 = .ok (.getfield 9, 3) := by decide +kernel
theorem dX9_becomes_11 : decode cX9_becomes 11 = .ok (.iload_n 1, 1) := by decide +kernel
theorem dX9_becomes_12 : decode cX9_becomes 12 = .ok (.iload_n 2, 1) := by decide +kernel
theorem dX9_becomes_13 : decode cX9_becomes 13 = .ok (.iastore, 1) := by decide +kernel
theorem dX9_becomes_14 : decode cX9_becomes 14 = .ok (.iload_n 3, 1) := by decide +kernel
theorem dX9_becomes_15 : decode cX9_becomes 15 = .ok (.ireturn, 1) := by decide +kernel
theorem dX9_isLock_0 : decode cX9_isLock 0 = .ok (.iload_n 1, 1) := by decide +kernel
theorem dX9_isLock_1 : decode cX9_isLock 1 = .ok (.iconst 0, 1) := by decide +kernel
theorem dX9_isLock_2 : decode cX9_isLock 2 = .ok (.aload_n 0, 1) := by decide +kernel
theorem dX9_isLock_3 : decode cX9_isLock 3 = .ok (.getfield 9, 3) := by decide +kernel
theorem dX9_isLock_6 : decode cX9_isLock 6 = .ok (.bipush 53, 2) := by decide +kernel
theorem dX9_isLock_8 : decode cX9_isLock 8 = .ok (.iaload, 1) := by decide +kernel
theorem dX9_isLock_9 : decode cX9_isLock 9 = .ok (.iconst 1, 1) := by decide +kernel
theorem dX9_isLock_10 : decode cX9_isLock 10 = .ok (.isub, 1) := by decide +kernel
theorem dX9_isLock_11 : decode cX9_isLock 11 = .ok (.invokestatic 46, 3) := by decide +kernel
theorem dX9_isLock_14 : decode cX9_isLock 14 = .ok (.ireturn, 1) := by decide +kernel
theorem dX9_isReach_0 : decode cX9_isReach 0 = .ok (.iload_n 1, 1) := by decide +kernel
theorem dX9_isReach_1 : decode cX9_isReach 1 = .ok (.iconst 0, 1) := by decide +kernel
theorem dX9_isReach_2 : decode cX9_isReach 2 = .ok (.aload_n 0, 1) := by decide +kernel
theorem dX9_isReach_3 : decode cX9_isReach 3 = .ok (.getfield 9, 3) := by decide +kernel
theorem dX9_isReach_6 : decode cX9_isReach 6 = .ok (.bipush 53, 2) := by decide +kernel
theorem dX9_isReach_8 : decode cX9_isReach 8 = .ok (.iaload, 1) := by decide +kernel
theorem dX9_isReach_9 : decode cX9_isReach 9 = .ok (.invokestatic 46, 3) := by decide +kernel
theorem dX9_isReach_12 : decode cX9_isReach 12 = .ok (.ireturn, 1) := by decide +kernel
theorem dX9_isBoat_0 : decode cX9_isBoat 0 = .ok (.iload_n 1, 1) := by decide +kernel
theorem dX9_isBoat_1 : decode cX9_isBoat 1 = .ok (.iconst 0, 1) := by decide +kernel
theorem dX9_isBoat_2 : decode cX9_isBoat 2 = .ok (.aload_n 0, 1) := by decide +kernel
theorem dX9_isBoat_3 : decode cX9_isBoat 3 = .ok (.getfield 9, 3) := by decide +kernel
theorem dX9_isBoat_6 : decode cX9_isBoat 6 = .ok (.bipush 114, 2) := by decide +kernel
theorem dX9_isBoat_8 : decode cX9_isBoat 8 = .ok (.iaload, 1) := by decide +kernel
theorem dX9_isBoat_9 : decode cX9_isBoat 9 = .ok (.iconst 1, 1) := by decide +kernel
theorem dX9_isBoat_10 : decode cX9_isBoat 10 = .ok (.isub, 1) := by decide +kernel
theorem dX9_isBoat_11 : decode cX9_isBoat 11 = .ok (.invokestatic 46, 3) := by decide +kernel
theorem dX9_isBoat_14 : decode cX9_isBoat 14 = .ok (.ireturn, 1) := by decide +kernel
theorem dX9_pours_0 : decode cX9_pours 0 = .ok (.iconst 0, 1) := by decide +kernel
theorem dX9_pours_1 : decode cX9_pours 1 = .ok (.istore_n 2, 1) := by decide +kernel
theorem dX9_pours_2 : decode cX9_pours 2 = .ok (.iload_n 2, 1) := by decide +kernel
theorem dX9_pours_3 : decode cX9_pours 3 = .ok (.sipush 235, 3) := by decide +kernel
theorem dX9_pours_6 : decode cX9_pours 6 = .ok (.if_icmp .ge 15, 3) := by decide +kernel
theorem dX9_pours_9 : decode cX9_pours 9 = .ok (.aload_n 1, 1) := by decide +kernel
theorem dX9_pours_10 : decode cX9_pours 10 = .ok (.iload_n 2, 1) := by decide +kernel
theorem dX9_pours_11 : decode cX9_pours 11 = .ok (.aload_n 0, 1) := by decide +kernel
theorem dX9_pours_12 : decode cX9_pours 12 = .ok (.iload_n 2, 1) := by decide +kernel
theorem dX9_pours_13 : decode cX9_pours 13 = .ok (.iaload, 1) := by decide +kernel
theorem dX9_pours_14 : decode cX9_pours 14 = .ok (.iastore, 1) := by decide +kernel
theorem dX9_pours_15 : decode cX9_pours 15 = .ok (.iinc 2 1, 3) := by decide +kernel
theorem dX9_pours_18 : decode cX9_pours 18 = .ok (.goto (-16), 3) := by decide +kernel
theorem dX9_pours_21 : decode cX9_pours 21 = .ok (.return_, 1) := by decide +kernel
theorem dX9_locks_0 : decode cX9_locks 0 = .ok (.iload_n 1, 1) := by decide +kernel
theorem dX9_locks_1 : decode cX9_locks 1 = .ok (.iconst 1, 1) := by decide +kernel
theorem dX9_locks_2 : decode cX9_locks 2 = .ok (.bipush 6, 2) := by decide +kernel
theorem dX9_locks_4 : decode cX9_locks 4 = .ok (.invokestatic 46, 3) := by decide +kernel
theorem dX9_locks_7 : decode cX9_locks 7 = .ok (.ifCond .ne 5, 3) := by decide +kernel
theorem dX9_locks_10 : decode cX9_locks 10 = .ok (.iconst (-1), 1) := by decide +kernel
theorem dX9_locks_11 : decode cX9_locks 11 = .ok (.ireturn, 1) := by decide +kernel
theorem dX9_locks_12 : decode cX9_locks 12 = .ok (.aload_n 0, 1) := by decide +kernel
theorem dX9_locks_13 : decode cX9_locks 13 = .ok (.getfield 9, 3) := by decide +kernel
theorem dX9_locks_16 : decode cX9_locks 16 = .ok (.bipush 53, 2) := by decide +kernel
theorem dX9_locks_18 : decode cX9_locks 18 = .ok (.iaload, 1) := by decide +kernel
theorem dX9_locks_19 : decode cX9_locks 19 = .ok (.istore_n 2, 1) := by decide +kernel
theorem dX9_locks_20 : decode cX9_locks 20 = .ok (.aload_n 0, 1) := by decide +kernel
theorem dX9_locks_21 : decode cX9_locks 21 = .ok (.iload_n 1, 1) := by decide +kernel
theorem dX9_locks_22 : decode cX9_locks 22 = .ok (.invokevirtual 42, 3) := by decide +kernel
theorem dX9_locks_25 : decode cX9_locks 25 = .ok (.iload_n 2, 1) := by decide +kernel
theorem dX9_locks_26 : decode cX9_locks 26 = .ok (.ireturn, 1) := by decide +kernel
theorem dX9_lock_0 : decode cX9_lock 0 = .ok (.aload_n 0, 1) := by decide +kernel
theorem dX9_lock_1 : decode cX9_lock 1 = .ok (.iload_n 1, 1) := by decide +kernel
theorem dX9_lock_2 : decode cX9_lock 2 = .ok (.invokevirtual 50, 3) := by decide +kernel
theorem dX9_lock_5 : decode cX9_lock 5 = .ok (.ifCond .eq 12, 3) := by decide +kernel
theorem dX9_lock_8 : decode cX9_lock 8 = .ok (.iload_n 2, 1) := by decide +kernel
theorem dX9_lock_9 : decode cX9_lock 9 = .ok (.iconst 0, 1) := by decide +kernel
theorem dX9_lock_10 : decode cX9_lock 10 = .ok (.iconst 1, 1) := by decide +kernel
theorem dX9_lock_11 : decode cX9_lock 11 = .ok (.invokestatic 46, 3) := by decide +kernel
theorem dX9_lock_14 : decode cX9_lock 14 = .ok (.ifCond .ne 5, 3) := by decide +kernel
theorem dX9_lock_17 : decode cX9_lock 17 = .ok (.iconst (-1), 1) := by decide +kernel
theorem dX9_lock_18 : decode cX9_lock 18 = .ok (.ireturn, 1) := by decide +kernel
theorem dX9_lock_19 : decode cX9_lock 19 = .ok (.iload_n 2, 1) := by decide +kernel
theorem dX9_lock_20 : decode cX9_lock 20 = .ok (.ifCond .ne 16, 3) := by decide +kernel
theorem dX9_lock_23 : decode cX9_lock 23 = .ok (.iload_n 3, 1) := by decide +kernel
theorem dX9_lock_24 : decode cX9_lock 24 = .ok (.iconst 1, 1) := by decide +kernel
theorem dX9_lock_25 : decode cX9_lock 25 = .ok (.bipush 99, 2) := by decide +kernel
theorem dX9_lock_27 : decode cX9_lock 27 = .ok (.invokestatic 46, 3) := by decide +kernel
theorem dX9_lock_30 : decode cX9_lock 30 = .ok (.ifCond .ne 17, 3) := by decide +kernel
theorem dX9_lock_33 : decode cX9_lock 33 = .ok (.goto 12, 3) := by decide +kernel
theorem dX9_lock_36 : decode cX9_lock 36 = .ok (.iload_n 3, 1) := by decide +kernel
theorem dX9_lock_37 : decode cX9_lock 37 = .ok (.iconst 0, 1) := by decide +kernel
theorem dX9_lock_38 : decode cX9_lock 38 = .ok (.iconst 3, 1) := by decide +kernel
theorem dX9_lock_39 : decode cX9_lock 39 = .ok (.invokestatic 46, 3) := by decide +kernel
theorem dX9_lock_42 : decode cX9_lock 42 = .ok (.ifCond .ne 5, 3) := by decide +kernel
theorem dX9_lock_45 : decode cX9_lock 45 = .ok (.iconst (-1), 1) := by decide +kernel
theorem dX9_lock_46 : decode cX9_lock 46 = .ok (.ireturn, 1) := by decide +kernel
theorem dX9_lock_47 : decode cX9_lock 47 = .ok (.aload_n 0, 1) := by decide +kernel
theorem dX9_lock_48 : decode cX9_lock 48 = .ok (.getfield 9, 3) := by decide +kernel
theorem dX9_lock_51 : decode cX9_lock 51 = .ok (.bipush 18, 2) := by decide +kernel
theorem dX9_lock_53 : decode cX9_lock 53 = .ok (.iload_n 1, 1) := by decide +kernel
theorem dX9_lock_54 : decode cX9_lock 54 = .ok (.iadd, 1) := by decide +kernel
theorem dX9_lock_55 : decode cX9_lock 55 = .ok (.iaload, 1) := by decide +kernel
theorem dX9_lock_56 : decode cX9_lock 56 = .ok (.iconst 1, 1) := by decide +kernel
theorem dX9_lock_57 : decode cX9_lock 57 = .ok (.if_icmp .eq 15, 3) := by decide +kernel
theorem dX9_lock_60 : decode cX9_lock 60 = .ok (.aload_n 0, 1) := by decide +kernel
theorem dX9_lock_61 : decode cX9_lock 61 = .ok (.getfield 9, 3) := by decide +kernel
theorem dX9_lock_64 : decode cX9_lock 64 = .ok (.bipush 12, 2) := by decide +kernel
theorem dX9_lock_66 : decode cX9_lock 66 = .ok (.iload_n 1, 1) := by decide +kernel
theorem dX9_lock_67 : decode cX9_lock 67 = .ok (.iadd, 1) := by decide +kernel
theorem dX9_lock_68 : decode cX9_lock 68 = .ok (.iaload, 1) := by decide +kernel
theorem dX9_lock_69 : decode cX9_lock 69 = .ok (.ifCond .le 6, 3) := by decide +kernel
theorem dX9_lock_72 : decode cX9_lock 72 = .ok (.bipush (-5), 2) := by decide +kernel
theorem dX9_lock_74 : decode cX9_lock 74 = .ok (.ireturn, 1) := by decide +kernel
theorem dX9_lock_75 : decode cX9_lock 75 = .ok (.aload_n 0, 1) := by decide +kernel
theorem dX9_lock_76 : decode cX9_lock 76 = .ok (.iload_n 2, 1) := by decide +kernel
theorem dX9_lock_77 : decode cX9_lock 77 = .ok (.ifCond .ne 7, 3) := by decide +kernel
theorem dX9_lock_80 : decode cX9_lock 80 = .ok (.iconst 0, 1) := by decide +kernel
theorem dX9_lock_81 : decode cX9_lock 81 = .ok (.goto 5, 3) := by decide +kernel
theorem dX9_lock_84 : decode cX9_lock 84 = .ok (.bipush 6, 2) := by decide +kernel
theorem dX9_lock_86 : decode cX9_lock 86 = .ok (.iload_n 1, 1) := by decide +kernel
theorem dX9_lock_87 : decode cX9_lock 87 = .ok (.iadd, 1) := by decide +kernel
theorem dX9_lock_88 : decode cX9_lock 88 = .ok (.iload_n 3, 1) := by decide +kernel
theorem dX9_lock_89 : decode cX9_lock 89 = .ok (.invokevirtual 54, 3) := by decide +kernel
theorem dX9_lock_92 : decode cX9_lock 92 = .ok (.ireturn, 1) := by decide +kernel
theorem dX9_share_0 : decode cX9_share 0 = .ok (.aload_n 0, 1) := by decide +kernel
theorem dX9_share_1 : decode cX9_share 1 = .ok (.getfield 9, 3) := by decide +kernel
theorem dX9_share_4 : decode cX9_share 4 = .ok (.iconst 0, 1) := by decide +kernel
theorem dX9_share_5 : decode cX9_share 5 = .ok (.iload_n 1, 1) := by decide +kernel
theorem dX9_share_6 : decode cX9_share 6 = .ok (.iadd, 1) := by decide +kernel
theorem dX9_share_7 : decode cX9_share 7 = .ok (.iaload, 1) := by decide +kernel
theorem dX9_share_8 : decode cX9_share 8 = .ok (.aload_n 0, 1) := by decide +kernel
theorem dX9_share_9 : decode cX9_share 9 = .ok (.getfield 9, 3) := by decide +kernel
theorem dX9_share_12 : decode cX9_share 12 = .ok (.bipush 6, 2) := by decide +kernel
theorem dX9_share_14 : decode cX9_share 14 = .ok (.iload_n 1, 1) := by decide +kernel
theorem dX9_share_15 : decode cX9_share 15 = .ok (.iadd, 1) := by decide +kernel
theorem dX9_share_16 : decode cX9_share 16 = .ok (.iaload, 1) := by decide +kernel
theorem dX9_share_17 : decode cX9_share 17 = .ok (.imul, 1) := by decide +kernel
theorem dX9_share_18 : decode cX9_share 18 = .ok (.aload_n 0, 1) := by decide +kernel
theorem dX9_share_19 : decode cX9_share 19 = .ok (.getfield 9, 3) := by decide +kernel
theorem dX9_share_22 : decode cX9_share 22 = .ok (.bipush 6, 2) := by decide +kernel
theorem dX9_share_24 : decode cX9_share 24 = .ok (.iload_n 1, 1) := by decide +kernel
theorem dX9_share_25 : decode cX9_share 25 = .ok (.iadd, 1) := by decide +kernel
theorem dX9_share_26 : decode cX9_share 26 = .ok (.iaload, 1) := by decide +kernel
theorem dX9_share_27 : decode cX9_share 27 = .ok (.iconst 2, 1) := by decide +kernel
theorem dX9_share_28 : decode cX9_share 28 = .ok (.iadd, 1) := by decide +kernel
theorem dX9_share_29 : decode cX9_share 29 = .ok (.idiv, 1) := by decide +kernel
theorem dX9_share_30 : decode cX9_share 30 = .ok (.ireturn, 1) := by decide +kernel
theorem dX9_ofLock_0 : decode cX9_ofLock 0 = .ok (.aload_n 0, 1) := by decide +kernel
theorem dX9_ofLock_1 : decode cX9_ofLock 1 = .ok (.iload_n 1, 1) := by decide +kernel
theorem dX9_ofLock_2 : decode cX9_ofLock 2 = .ok (.invokevirtual 50, 3) := by decide +kernel
theorem dX9_ofLock_5 : decode cX9_ofLock 5 = .ok (.ifCond .eq 12, 3) := by decide +kernel
theorem dX9_ofLock_8 : decode cX9_ofLock 8 = .ok (.iload_n 2, 1) := by decide +kernel
theorem dX9_ofLock_9 : decode cX9_ofLock 9 = .ok (.iconst 0, 1) := by decide +kernel
theorem dX9_ofLock_10 : decode cX9_ofLock 10 = .ok (.iconst 4, 1) := by decide +kernel
theorem dX9_ofLock_11 : decode cX9_ofLock 11 = .ok (.invokestatic 46, 3) := by decide +kernel
theorem dX9_ofLock_14 : decode cX9_ofLock 14 = .ok (.ifCond .ne 5, 3) := by decide +kernel
theorem dX9_ofLock_17 : decode cX9_ofLock 17 = .ok (.iconst (-1), 1) := by decide +kernel
theorem dX9_ofLock_18 : decode cX9_ofLock 18 = .ok (.ireturn, 1) := by decide +kernel
theorem dX9_ofLock_19 : decode cX9_ofLock 19 = .ok (.iload_n 2, 1) := by decide +kernel
theorem dX9_ofLock_20 : decode cX9_ofLock 20 = .ok (.iconst 4, 1) := by decide +kernel
theorem dX9_ofLock_21 : decode cX9_ofLock 21 = .ok (.if_icmp .ne 11, 3) := by decide +kernel
theorem dX9_ofLock_24 : decode cX9_ofLock 24 = .ok (.aload_n 0, 1) := by decide +kernel
theorem dX9_ofLock_25 : decode cX9_ofLock 25 = .ok (.iload_n 1, 1) := by decide +kernel
theorem dX9_ofLock_26 : decode cX9_ofLock 26 = .ok (.invokevirtual 58, 3) := by decide +kernel
theorem dX9_ofLock_29 : decode cX9_ofLock 29 = .ok (.goto 14, 3) := by decide +kernel
theorem dX9_ofLock_32 : decode cX9_ofLock 32 = .ok (.aload_n 0, 1) := by decide +kernel
theorem dX9_ofLock_33 : decode cX9_ofLock 33 = .ok (.getfield 9, 3) := by decide +kernel
theorem dX9_ofLock_36 : decode cX9_ofLock 36 = .ok (.bipush 6, 2) := by decide +kernel
theorem dX9_ofLock_38 : decode cX9_ofLock 38 = .ok (.iload_n 2, 1) := by decide +kernel
theorem dX9_ofLock_39 : decode cX9_ofLock 39 = .ok (.imul, 1) := by decide +kernel
theorem dX9_ofLock_40 : decode cX9_ofLock 40 = .ok (.iload_n 1, 1) := by decide +kernel
theorem dX9_ofLock_41 : decode cX9_ofLock 41 = .ok (.iadd, 1) := by decide +kernel
theorem dX9_ofLock_42 : decode cX9_ofLock 42 = .ok (.iaload, 1) := by decide +kernel
theorem dX9_ofLock_43 : decode cX9_ofLock 43 = .ok (.ireturn, 1) := by decide +kernel
theorem dX9_reach_0 : decode cX9_reach 0 = .ok (.aload_n 0, 1) := by decide +kernel
theorem dX9_reach_1 : decode cX9_reach 1 = .ok (.iload_n 1, 1) := by decide +kernel
theorem dX9_reach_2 : decode cX9_reach 2 = .ok (.invokevirtual 62, 3) := by decide +kernel
theorem dX9_reach_5 : decode cX9_reach 5 = .ok (.ifCond .eq 33, 3) := by decide +kernel
theorem dX9_reach_8 : decode cX9_reach 8 = .ok (.iload_n 2, 1) := by decide +kernel
theorem dX9_reach_9 : decode cX9_reach 9 = .ok (.iconst 0, 1) := by decide +kernel
theorem dX9_reach_10 : decode cX9_reach 10 = .ok (.iconst 3, 1) := by decide +kernel
theorem dX9_reach_11 : decode cX9_reach 11 = .ok (.invokestatic 46, 3) := by decide +kernel
theorem dX9_reach_14 : decode cX9_reach 14 = .ok (.ifCond .eq 24, 3) := by decide +kernel
theorem dX9_reach_17 : decode cX9_reach 17 = .ok (.iload_n 3, 1) := by decide +kernel
theorem dX9_reach_18 : decode cX9_reach 18 = .ok (.iconst 0, 1) := by decide +kernel
theorem dX9_reach_19 : decode cX9_reach 19 = .ok (.iload_n 2, 1) := by decide +kernel
theorem dX9_reach_20 : decode cX9_reach 20 = .ok (.iconst 3, 1) := by decide +kernel
theorem dX9_reach_21 : decode cX9_reach 21 = .ok (.if_icmp .ne 8, 3) := by decide +kernel
theorem dX9_reach_24 : decode cX9_reach 24 = .ok (.bipush 99, 2) := by decide +kernel
theorem dX9_reach_26 : decode cX9_reach 26 = .ok (.goto 6, 3) := by decide +kernel
theorem dX9_reach_29 : decode cX9_reach 29 = .ok (.sipush 9999, 3) := by decide +kernel
theorem dX9_reach_32 : decode cX9_reach 32 = .ok (.invokestatic 46, 3) := by decide +kernel
theorem dX9_reach_35 : decode cX9_reach 35 = .ok (.ifCond .ne 5, 3) := by decide +kernel
theorem dX9_reach_38 : decode cX9_reach 38 = .ok (.iconst (-1), 1) := by decide +kernel
theorem dX9_reach_39 : decode cX9_reach 39 = .ok (.ireturn, 1) := by decide +kernel
theorem dX9_reach_40 : decode cX9_reach 40 = .ok (.iload_n 2, 1) := by decide +kernel
theorem dX9_reach_41 : decode cX9_reach 41 = .ok (.ifCond .ne 7, 3) := by decide +kernel
theorem dX9_reach_44 : decode cX9_reach 44 = .ok (.iload_n 3, 1) := by decide +kernel
theorem dX9_reach_45 : decode cX9_reach 45 = .ok (.goto 12, 3) := by decide +kernel
theorem dX9_reach_48 : decode cX9_reach 48 = .ok (.aload_n 0, 1) := by decide +kernel
theorem dX9_reach_49 : decode cX9_reach 49 = .ok (.getfield 9, 3) := by decide +kernel
theorem dX9_reach_52 : decode cX9_reach 52 = .ok (.bipush 24, 2) := by decide +kernel
theorem dX9_reach_54 : decode cX9_reach 54 = .ok (.iload_n 1, 1) := by decide +kernel
theorem dX9_reach_55 : decode cX9_reach 55 = .ok (.iadd, 1) := by decide +kernel
theorem dX9_reach_56 : decode cX9_reach 56 = .ok (.iaload, 1) := by decide +kernel
theorem dX9_reach_57 : decode cX9_reach 57 = .ok (.istore 4, 2) := by decide +kernel
theorem dX9_reach_59 : decode cX9_reach 59 = .ok (.iload_n 2, 1) := by decide +kernel
theorem dX9_reach_60 : decode cX9_reach 60 = .ok (.iconst 1, 1) := by decide +kernel
theorem dX9_reach_61 : decode cX9_reach 61 = .ok (.if_icmp .ne 7, 3) := by decide +kernel
theorem dX9_reach_64 : decode cX9_reach 64 = .ok (.iload_n 3, 1) := by decide +kernel
theorem dX9_reach_65 : decode cX9_reach 65 = .ok (.goto 12, 3) := by decide +kernel
theorem dX9_reach_68 : decode cX9_reach 68 = .ok (.aload_n 0, 1) := by decide +kernel
theorem dX9_reach_69 : decode cX9_reach 69 = .ok (.getfield 9, 3) := by decide +kernel
theorem dX9_reach_72 : decode cX9_reach 72 = .ok (.bipush 31, 2) := by decide +kernel
theorem dX9_reach_74 : decode cX9_reach 74 = .ok (.iload_n 1, 1) := by decide +kernel
theorem dX9_reach_75 : decode cX9_reach 75 = .ok (.iadd, 1) := by decide +kernel
theorem dX9_reach_76 : decode cX9_reach 76 = .ok (.iaload, 1) := by decide +kernel
theorem dX9_reach_77 : decode cX9_reach 77 = .ok (.istore 5, 2) := by decide +kernel
theorem dX9_reach_79 : decode cX9_reach 79 = .ok (.iload_n 2, 1) := by decide +kernel
theorem dX9_reach_80 : decode cX9_reach 80 = .ok (.iconst 2, 1) := by decide +kernel
theorem dX9_reach_81 : decode cX9_reach 81 = .ok (.if_icmp .ne 7, 3) := by decide +kernel
theorem dX9_reach_84 : decode cX9_reach 84 = .ok (.iload_n 3, 1) := by decide +kernel
theorem dX9_reach_85 : decode cX9_reach 85 = .ok (.goto 12, 3) := by decide +kernel
theorem dX9_reach_88 : decode cX9_reach 88 = .ok (.aload_n 0, 1) := by decide +kernel
theorem dX9_reach_89 : decode cX9_reach 89 = .ok (.getfield 9, 3) := by decide +kernel
theorem dX9_reach_92 : decode cX9_reach 92 = .ok (.bipush 38, 2) := by decide +kernel
theorem dX9_reach_94 : decode cX9_reach 94 = .ok (.iload_n 1, 1) := by decide +kernel
theorem dX9_reach_95 : decode cX9_reach 95 = .ok (.iadd, 1) := by decide +kernel
theorem dX9_reach_96 : decode cX9_reach 96 = .ok (.iaload, 1) := by decide +kernel
theorem dX9_reach_97 : decode cX9_reach 97 = .ok (.istore 6, 2) := by decide +kernel
theorem dX9_reach_99 : decode cX9_reach 99 = .ok (.iload 4, 2) := by decide +kernel
theorem dX9_reach_101 : decode cX9_reach 101 = .ok (.iload 5, 2) := by decide +kernel
theorem dX9_reach_103 : decode cX9_reach 103 = .ok (.if_icmp .lt 10, 3) := by decide +kernel
theorem dX9_reach_106 : decode cX9_reach 106 = .ok (.iload 4, 2) := by decide +kernel
theorem dX9_reach_108 : decode cX9_reach 108 = .ok (.iload 6, 2) := by decide +kernel
theorem dX9_reach_110 : decode cX9_reach 110 = .ok (.if_icmp .le 6, 3) := by decide +kernel
theorem dX9_reach_113 : decode cX9_reach 113 = .ok (.bipush (-5), 2) := by decide +kernel
theorem dX9_reach_115 : decode cX9_reach 115 = .ok (.ireturn, 1) := by decide +kernel
theorem dX9_reach_116 : decode cX9_reach 116 = .ok (.aload_n 0, 1) := by decide +kernel
theorem dX9_reach_117 : decode cX9_reach 117 = .ok (.bipush 24, 2) := by decide +kernel
theorem dX9_reach_119 : decode cX9_reach 119 = .ok (.bipush 7, 2) := by decide +kernel
theorem dX9_reach_121 : decode cX9_reach 121 = .ok (.iload_n 2, 1) := by decide +kernel
theorem dX9_reach_122 : decode cX9_reach 122 = .ok (.imul, 1) := by decide +kernel
theorem dX9_reach_123 : decode cX9_reach 123 = .ok (.iadd, 1) := by decide +kernel
theorem dX9_reach_124 : decode cX9_reach 124 = .ok (.iload_n 1, 1) := by decide +kernel
theorem dX9_reach_125 : decode cX9_reach 125 = .ok (.iadd, 1) := by decide +kernel
theorem dX9_reach_126 : decode cX9_reach 126 = .ok (.iload_n 3, 1) := by decide +kernel
theorem dX9_reach_127 : decode cX9_reach 127 = .ok (.invokevirtual 54, 3) := by decide +kernel
theorem dX9_reach_130 : decode cX9_reach 130 = .ok (.ireturn, 1) := by decide +kernel
theorem dX9_ofReach_0 : decode cX9_ofReach 0 = .ok (.aload_n 0, 1) := by decide +kernel
theorem dX9_ofReach_1 : decode cX9_ofReach 1 = .ok (.iload_n 1, 1) := by decide +kernel
theorem dX9_ofReach_2 : decode cX9_ofReach 2 = .ok (.invokevirtual 62, 3) := by decide +kernel
theorem dX9_ofReach_5 : decode cX9_ofReach 5 = .ok (.ifCond .eq 12, 3) := by decide +kernel
theorem dX9_ofReach_8 : decode cX9_ofReach 8 = .ok (.iload_n 2, 1) := by decide +kernel
theorem dX9_ofReach_9 : decode cX9_ofReach 9 = .ok (.iconst 0, 1) := by decide +kernel
theorem dX9_ofReach_10 : decode cX9_ofReach 10 = .ok (.iconst 4, 1) := by decide +kernel
theorem dX9_ofReach_11 : decode cX9_ofReach 11 = .ok (.invokestatic 46, 3) := by decide +kernel
theorem dX9_ofReach_14 : decode cX9_ofReach 14 = .ok (.ifCond .ne 5, 3) := by decide +kernel
theorem dX9_ofReach_17 : decode cX9_ofReach 17 = .ok (.iconst (-1), 1) := by decide +kernel
theorem dX9_ofReach_18 : decode cX9_ofReach 18 = .ok (.ireturn, 1) := by decide +kernel
theorem dX9_ofReach_19 : decode cX9_ofReach 19 = .ok (.iload_n 2, 1) := by decide +kernel
theorem dX9_ofReach_20 : decode cX9_ofReach 20 = .ok (.iconst 4, 1) := by decide +kernel
theorem dX9_ofReach_21 : decode cX9_ofReach 21 = .ok (.if_icmp .ge 18, 3) := by decide +kernel
theorem dX9_ofReach_24 : decode cX9_ofReach 24 = .ok (.aload_n 0, 1) := by decide +kernel
theorem dX9_ofReach_25 : decode cX9_ofReach 25 = .ok (.getfield 9, 3) := by decide +kernel
theorem dX9_ofReach_28 : decode cX9_ofReach 28 = .ok (.bipush 24, 2) := by decide +kernel
theorem dX9_ofReach_30 : decode cX9_ofReach 30 = .ok (.bipush 7, 2) := by decide +kernel
theorem dX9_ofReach_32 : decode cX9_ofReach 32 = .ok (.iload_n 2, 1) := by decide +kernel
theorem dX9_ofReach_33 : decode cX9_ofReach 33 = .ok (.imul, 1) := by decide +kernel
theorem dX9_ofReach_34 : decode cX9_ofReach 34 = .ok (.iadd, 1) := by decide +kernel
theorem dX9_ofReach_35 : decode cX9_ofReach 35 = .ok (.iload_n 1, 1) := by decide +kernel
theorem dX9_ofReach_36 : decode cX9_ofReach 36 = .ok (.iadd, 1) := by decide +kernel
theorem dX9_ofReach_37 : decode cX9_ofReach 37 = .ok (.iaload, 1) := by decide +kernel
theorem dX9_ofReach_38 : decode cX9_ofReach 38 = .ok (.ireturn, 1) := by decide +kernel
theorem dX9_ofReach_39 : decode cX9_ofReach 39 = .ok (.iconst 0, 1) := by decide +kernel
theorem dX9_ofReach_40 : decode cX9_ofReach 40 = .ok (.istore_n 3, 1) := by decide +kernel
theorem dX9_ofReach_41 : decode cX9_ofReach 41 = .ok (.iconst 0, 1) := by decide +kernel
theorem dX9_ofReach_42 : decode cX9_ofReach 42 = .ok (.istore 4, 2) := by decide +kernel
theorem dX9_ofReach_44 : decode cX9_ofReach 44 = .ok (.iload 4, 2) := by decide +kernel
theorem dX9_ofReach_46 : decode cX9_ofReach 46 = .ok (.aload_n 0, 1) := by decide +kernel
theorem dX9_ofReach_47 : decode cX9_ofReach 47 = .ok (.getfield 9, 3) := by decide +kernel
theorem dX9_ofReach_50 : decode cX9_ofReach 50 = .ok (.bipush 114, 2) := by decide +kernel
theorem dX9_ofReach_52 : decode cX9_ofReach 52 = .ok (.iaload, 1) := by decide +kernel
theorem dX9_ofReach_53 : decode cX9_ofReach 53 = .ok (.if_icmp .ge 26, 3) := by decide +kernel
theorem dX9_ofReach_56 : decode cX9_ofReach 56 = .ok (.aload_n 0, 1) := by decide +kernel
theorem dX9_ofReach_57 : decode cX9_ofReach 57 = .ok (.getfield 9, 3) := by decide +kernel
theorem dX9_ofReach_60 : decode cX9_ofReach 60 = .ok (.bipush 102, 2) := by decide +kernel
theorem dX9_ofReach_62 : decode cX9_ofReach 62 = .ok (.iload 4, 2) := by decide +kernel
theorem dX9_ofReach_64 : decode cX9_ofReach 64 = .ok (.iadd, 1) := by decide +kernel
theorem dX9_ofReach_65 : decode cX9_ofReach 65 = .ok (.iaload, 1) := by decide +kernel
theorem dX9_ofReach_66 : decode cX9_ofReach 66 = .ok (.iload_n 1, 1) := by decide +kernel
theorem dX9_ofReach_67 : decode cX9_ofReach 67 = .ok (.if_icmp .ne 6, 3) := by decide +kernel
theorem dX9_ofReach_70 : decode cX9_ofReach 70 = .ok (.iinc 3 1, 3) := by decide +kernel
theorem dX9_ofReach_73 : decode cX9_ofReach 73 = .ok (.iinc 4 1, 3) := by decide +kernel
theorem dX9_ofReach_76 : decode cX9_ofReach 76 = .ok (.goto (-32), 3) := by decide +kernel
theorem dX9_ofReach_79 : decode cX9_ofReach 79 = .ok (.iload_n 3, 1) := by decide +kernel
theorem dX9_ofReach_80 : decode cX9_ofReach 80 = .ok (.ireturn, 1) := by decide +kernel
theorem dX9_feeds_0 : decode cX9_feeds 0 = .ok (.iload_n 1, 1) := by decide +kernel
theorem dX9_feeds_1 : decode cX9_feeds 1 = .ok (.iconst 0, 1) := by decide +kernel
theorem dX9_feeds_2 : decode cX9_feeds 2 = .ok (.sipush 999, 3) := by decide +kernel
theorem dX9_feeds_5 : decode cX9_feeds 5 = .ok (.invokestatic 46, 3) := by decide +kernel
theorem dX9_feeds_8 : decode cX9_feeds 8 = .ok (.ifCond .eq 13, 3) := by decide +kernel
theorem dX9_feeds_11 : decode cX9_feeds 11 = .ok (.aload_n 0, 1) := by decide +kernel
theorem dX9_feeds_12 : decode cX9_feeds 12 = .ok (.bipush 52, 2) := by decide +kernel
theorem dX9_feeds_14 : decode cX9_feeds 14 = .ok (.iload_n 1, 1) := by decide +kernel
theorem dX9_feeds_15 : decode cX9_feeds 15 = .ok (.invokevirtual 54, 3) := by decide +kernel
theorem dX9_feeds_18 : decode cX9_feeds 18 = .ok (.goto 4, 3) := by decide +kernel
theorem dX9_feeds_21 : decode cX9_feeds 21 = .ok (.iconst (-1), 1) := by decide +kernel
theorem dX9_feeds_22 : decode cX9_feeds 22 = .ok (.ireturn, 1) := by decide +kernel
theorem dX9_feed_0 : decode cX9_feed 0 = .ok (.iload_n 1, 1) := by decide +kernel
theorem dX9_feed_1 : decode cX9_feed 1 = .ok (.bipush 32, 2) := by decide +kernel
theorem dX9_feed_3 : decode cX9_feed 3 = .ok (.bipush 126, 2) := by decide +kernel
theorem dX9_feed_5 : decode cX9_feed 5 = .ok (.invokestatic 46, 3) := by decide +kernel
theorem dX9_feed_8 : decode cX9_feed 8 = .ok (.ifCond .ne 5, 3) := by decide +kernel
theorem dX9_feed_11 : decode cX9_feed 11 = .ok (.iconst (-1), 1) := by decide +kernel
theorem dX9_feed_12 : decode cX9_feed 12 = .ok (.ireturn, 1) := by decide +kernel
theorem dX9_feed_13 : decode cX9_feed 13 = .ok (.aload_n 0, 1) := by decide +kernel
theorem dX9_feed_14 : decode cX9_feed 14 = .ok (.getfield 65, 3) := by decide +kernel
theorem dX9_feed_17 : decode cX9_feed 17 = .ok (.bipush 60, 2) := by decide +kernel
theorem dX9_feed_19 : decode cX9_feed 19 = .ok (.if_icmp .ne 6, 3) := by decide +kernel
theorem dX9_feed_22 : decode cX9_feed 22 = .ok (.bipush (-3), 2) := by decide +kernel
theorem dX9_feed_24 : decode cX9_feed 24 = .ok (.ireturn, 1) := by decide +kernel
theorem dX9_feed_25 : decode cX9_feed 25 = .ok (.aload_n 0, 1) := by decide +kernel
theorem dX9_feed_26 : decode cX9_feed 26 = .ok (.getfield 24, 3) := by decide +kernel
theorem dX9_feed_29 : decode cX9_feed 29 = .ok (.aload_n 0, 1) := by decide +kernel
theorem dX9_feed_30 : decode cX9_feed 30 = .ok (.dup, 1) := by decide +kernel
theorem dX9_feed_31 : decode cX9_feed 31 = .ok (.getfield 65, 3) := by decide +kernel
theorem dX9_feed_34 : decode cX9_feed 34 = .ok (.dup_x1, 1) := by decide +kernel
theorem dX9_feed_35 : decode cX9_feed 35 = .ok (.iconst 1, 1) := by decide +kernel
theorem dX9_feed_36 : decode cX9_feed 36 = .ok (.iadd, 1) := by decide +kernel
theorem dX9_feed_37 : decode cX9_feed 37 = .ok (.putfield 65, 3) := by decide +kernel
theorem dX9_feed_40 : decode cX9_feed 40 = .ok (.iload_n 1, 1) := by decide +kernel
theorem dX9_feed_41 : decode cX9_feed 41 = .ok (.iastore, 1) := by decide +kernel
theorem dX9_feed_42 : decode cX9_feed 42 = .ok (.aload_n 0, 1) := by decide +kernel
theorem dX9_feed_43 : decode cX9_feed 43 = .ok (.getfield 65, 3) := by decide +kernel
theorem dX9_feed_46 : decode cX9_feed 46 = .ok (.ireturn, 1) := by decide +kernel
theorem dX9_isFrom_0 : decode cX9_isFrom 0 = .ok (.aload_n 0, 1) := by decide +kernel
theorem dX9_isFrom_1 : decode cX9_isFrom 1 = .ok (.getfield 69, 3) := by decide +kernel
theorem dX9_isFrom_4 : decode cX9_isFrom 4 = .ok (.ifCond .ge 35, 3) := by decide +kernel
theorem dX9_isFrom_7 : decode cX9_isFrom 7 = .ok (.aload_n 0, 1) := by decide +kernel
theorem dX9_isFrom_8 : decode cX9_isFrom 8 = .ok (.getfield 72, 3) := by decide +kernel
theorem dX9_isFrom_11 : decode cX9_isFrom 11 = .ok (.aload_n 0, 1) := by decide +kernel
theorem dX9_isFrom_12 : decode cX9_isFrom 12 = .ok (.getfield 65, 3) := by decide +kernel
theorem dX9_isFrom_15 : decode cX9_isFrom 15 = .ok (.if_icmp .ge 24, 3) := by decide +kernel
theorem dX9_isFrom_18 : decode cX9_isFrom 18 = .ok (.aload_n 0, 1) := by decide +kernel
theorem dX9_isFrom_19 : decode cX9_isFrom 19 = .ok (.getfield 24, 3) := by decide +kernel
theorem dX9_isFrom_22 : decode cX9_isFrom 22 = .ok (.aload_n 0, 1) := by decide +kernel
theorem dX9_isFrom_23 : decode cX9_isFrom 23 = .ok (.getfield 72, 3) := by decide +kernel
theorem dX9_isFrom_26 : decode cX9_isFrom 26 = .ok (.iaload, 1) := by decide +kernel
theorem dX9_isFrom_27 : decode cX9_isFrom 27 = .ok (.iload_n 1, 1) := by decide +kernel
theorem dX9_isFrom_28 : decode cX9_isFrom 28 = .ok (.iload_n 2, 1) := by decide +kernel
theorem dX9_isFrom_29 : decode cX9_isFrom 29 = .ok (.invokestatic 46, 3) := by decide +kernel
theorem dX9_isFrom_32 : decode cX9_isFrom 32 = .ok (.ifCond .eq 7, 3) := by decide +kernel
theorem dX9_isFrom_35 : decode cX9_isFrom 35 = .ok (.iconst 1, 1) := by decide +kernel
theorem dX9_isFrom_36 : decode cX9_isFrom 36 = .ok (.goto 4, 3) := by decide +kernel
theorem dX9_isFrom_39 : decode cX9_isFrom 39 = .ok (.iconst 0, 1) := by decide +kernel
theorem dX9_isFrom_40 : decode cX9_isFrom 40 = .ok (.ireturn, 1) := by decide +kernel
theorem dX9_wrong_0 : decode cX9_wrong 0 = .ok (.aload_n 0, 1) := by decide +kernel
theorem dX9_wrong_1 : decode cX9_wrong 1 = .ok (.getfield 69, 3) := by decide +kernel
theorem dX9_wrong_4 : decode cX9_wrong 4 = .ok (.ifCond .ge 11, 3) := by decide +kernel
theorem dX9_wrong_7 : decode cX9_wrong 7 = .ok (.aload_n 0, 1) := by decide +kernel
theorem dX9_wrong_8 : decode cX9_wrong 8 = .ok (.aload_n 0, 1) := by decide +kernel
theorem dX9_wrong_9 : decode cX9_wrong 9 = .ok (.getfield 72, 3) := by decide +kernel
theorem dX9_wrong_12 : decode cX9_wrong 12 = .ok (.putfield 69, 3) := by decide +kernel
theorem dX9_wrong_15 : decode cX9_wrong 15 = .ok (.return_, 1) := by decide +kernel
theorem dX9_name_0 : decode cX9_name 0 = .ok (.iconst 0, 1) := by decide +kernel
theorem dX9_name_1 : decode cX9_name 1 = .ok (.istore_n 1, 1) := by decide +kernel
theorem dX9_name_2 : decode cX9_name 2 = .ok (.iconst 0, 1) := by decide +kernel
theorem dX9_name_3 : decode cX9_name 3 = .ok (.istore_n 2, 1) := by decide +kernel
theorem dX9_name_4 : decode cX9_name 4 = .ok (.iload_n 2, 1) := by decide +kernel
theorem dX9_name_5 : decode cX9_name 5 = .ok (.iconst 4, 1) := by decide +kernel
theorem dX9_name_6 : decode cX9_name 6 = .ok (.if_icmp .ge 50, 3) := by decide +kernel
theorem dX9_name_9 : decode cX9_name 9 = .ok (.aload_n 0, 1) := by decide +kernel
theorem dX9_name_10 : decode cX9_name 10 = .ok (.bipush 97, 2) := by decide +kernel
theorem dX9_name_12 : decode cX9_name 12 = .ok (.bipush 122, 2) := by decide +kernel
theorem dX9_name_14 : decode cX9_name 14 = .ok (.invokevirtual 75, 3) := by decide +kernel
theorem dX9_name_17 : decode cX9_name 17 = .ok (.ifCond .eq 39, 3) := by decide +kernel
theorem dX9_name_20 : decode cX9_name 20 = .ok (.bipush 27, 2) := by decide +kernel
theorem dX9_name_22 : decode cX9_name 22 = .ok (.iload_n 1, 1) := by decide +kernel
theorem dX9_name_23 : decode cX9_name 23 = .ok (.imul, 1) := by decide +kernel
theorem dX9_name_24 : decode cX9_name 24 = .ok (.aload_n 0, 1) := by decide +kernel
theorem dX9_name_25 : decode cX9_name 25 = .ok (.getfield 24, 3) := by decide +kernel
theorem dX9_name_28 : decode cX9_name 28 = .ok (.aload_n 0, 1) := by decide +kernel
theorem dX9_name_29 : decode cX9_name 29 = .ok (.getfield 72, 3) := by decide +kernel
theorem dX9_name_32 : decode cX9_name 32 = .ok (.iaload, 1) := by decide +kernel
theorem dX9_name_33 : decode cX9_name 33 = .ok (.iadd, 1) := by decide +kernel
theorem dX9_name_34 : decode cX9_name 34 = .ok (.bipush 97, 2) := by decide +kernel
theorem dX9_name_36 : decode cX9_name 36 = .ok (.isub, 1) := by decide +kernel
theorem dX9_name_37 : decode cX9_name 37 = .ok (.iconst 1, 1) := by decide +kernel
theorem dX9_name_38 : decode cX9_name 38 = .ok (.iadd, 1) := by decide +kernel
theorem dX9_name_39 : decode cX9_name 39 = .ok (.istore_n 1, 1) := by decide +kernel
theorem dX9_name_40 : decode cX9_name 40 = .ok (.aload_n 0, 1) := by decide +kernel
theorem dX9_name_41 : decode cX9_name 41 = .ok (.dup, 1) := by decide +kernel
theorem dX9_name_42 : decode cX9_name 42 = .ok (.getfield 72, 3) := by decide +kernel
theorem dX9_name_45 : decode cX9_name 45 = .ok (.iconst 1, 1) := by decide +kernel
theorem dX9_name_46 : decode cX9_name 46 = .ok (.iadd, 1) := by decide +kernel
theorem dX9_name_47 : decode cX9_name 47 = .ok (.putfield 72, 3) := by decide +kernel
theorem dX9_name_50 : decode cX9_name 50 = .ok (.iinc 2 1, 3) := by decide +kernel
theorem dX9_name_53 : decode cX9_name 53 = .ok (.goto (-49), 3) := by decide +kernel
theorem dX9_name_56 : decode cX9_name 56 = .ok (.iload_n 2, 1) := by decide +kernel
theorem dX9_name_57 : decode cX9_name 57 = .ok (.ifCond .ne 7, 3) := by decide +kernel
theorem dX9_name_60 : decode cX9_name 60 = .ok (.aload_n 0, 1) := by decide +kernel
theorem dX9_name_61 : decode cX9_name 61 = .ok (.invokevirtual 79, 3) := by decide +kernel
theorem dX9_name_64 : decode cX9_name 64 = .ok (.iload_n 2, 1) := by decide +kernel
theorem dX9_name_65 : decode cX9_name 65 = .ok (.istore_n 3, 1) := by decide +kernel
theorem dX9_name_66 : decode cX9_name 66 = .ok (.iload_n 3, 1) := by decide +kernel
theorem dX9_name_67 : decode cX9_name 67 = .ok (.iconst 4, 1) := by decide +kernel
theorem dX9_name_68 : decode cX9_name 68 = .ok (.if_icmp .ge 14, 3) := by decide +kernel
theorem dX9_name_71 : decode cX9_name 71 = .ok (.iload_n 1, 1) := by decide +kernel
theorem dX9_name_72 : decode cX9_name 72 = .ok (.bipush 27, 2) := by decide +kernel
theorem dX9_name_74 : decode cX9_name 74 = .ok (.imul, 1) := by decide +kernel
theorem dX9_name_75 : decode cX9_name 75 = .ok (.istore_n 1, 1) := by decide +kernel
theorem dX9_name_76 : decode cX9_name 76 = .ok (.iinc 3 1, 3) := by decide +kernel
theorem dX9_name_79 : decode cX9_name 79 = .ok (.goto (-13), 3) := by decide +kernel
theorem dX9_name_82 : decode cX9_name 82 = .ok (.iload_n 1, 1) := by decide +kernel
theorem dX9_name_83 : decode cX9_name 83 = .ok (.ireturn, 1) := by decide +kernel
theorem dX9_figure_0 : decode cX9_figure 0 = .ok (.aload_n 0, 1) := by decide +kernel
theorem dX9_figure_1 : decode cX9_figure 1 = .ok (.bipush 48, 2) := by decide +kernel
theorem dX9_figure_3 : decode cX9_figure 3 = .ok (.bipush 48, 2) := by decide +kernel
theorem dX9_figure_5 : decode cX9_figure 5 = .ok (.iload_n 1, 1) := by decide +kernel
theorem dX9_figure_6 : decode cX9_figure 6 = .ok (.iadd, 1) := by decide +kernel
theorem dX9_figure_7 : decode cX9_figure 7 = .ok (.invokevirtual 75, 3) := by decide +kernel
theorem dX9_figure_10 : decode cX9_figure 10 = .ok (.ifCond .ne 9, 3) := by decide +kernel
theorem dX9_figure_13 : decode cX9_figure 13 = .ok (.aload_n 0, 1) := by decide +kernel
theorem dX9_figure_14 : decode cX9_figure 14 = .ok (.invokevirtual 79, 3) := by decide +kernel
theorem dX9_figure_17 : decode cX9_figure 17 = .ok (.iconst 0, 1) := by decide +kernel
theorem dX9_figure_18 : decode cX9_figure 18 = .ok (.ireturn, 1) := by decide +kernel
theorem dX9_figure_19 : decode cX9_figure 19 = .ok (.aload_n 0, 1) := by decide +kernel
theorem dX9_figure_20 : decode cX9_figure 20 = .ok (.dup, 1) := by decide +kernel
theorem dX9_figure_21 : decode cX9_figure 21 = .ok (.getfield 72, 3) := by decide +kernel
theorem dX9_figure_24 : decode cX9_figure 24 = .ok (.iconst 1, 1) := by decide +kernel
theorem dX9_figure_25 : decode cX9_figure 25 = .ok (.iadd, 1) := by decide +kernel
theorem dX9_figure_26 : decode cX9_figure 26 = .ok (.putfield 72, 3) := by decide +kernel
theorem dX9_figure_29 : decode cX9_figure 29 = .ok (.aload_n 0, 1) := by decide +kernel
theorem dX9_figure_30 : decode cX9_figure 30 = .ok (.getfield 24, 3) := by decide +kernel
theorem dX9_figure_33 : decode cX9_figure 33 = .ok (.aload_n 0, 1) := by decide +kernel
theorem dX9_figure_34 : decode cX9_figure 34 = .ok (.getfield 72, 3) := by decide +kernel
theorem dX9_figure_37 : decode cX9_figure 37 = .ok (.iconst 1, 1) := by decide +kernel
theorem dX9_figure_38 : decode cX9_figure 38 = .ok (.isub, 1) := by decide +kernel
theorem dX9_figure_39 : decode cX9_figure 39 = .ok (.iaload, 1) := by decide +kernel
theorem dX9_figure_40 : decode cX9_figure 40 = .ok (.bipush 48, 2) := by decide +kernel
theorem dX9_figure_42 : decode cX9_figure 42 = .ok (.isub, 1) := by decide +kernel
theorem dX9_figure_43 : decode cX9_figure 43 = .ok (.ireturn, 1) := by decide +kernel
theorem dX9_readsBoat_0 : decode cX9_readsBoat 0 = .ok (.iconst 5, 1) := by decide +kernel
theorem dX9_readsBoat_1 : decode cX9_readsBoat 1 = .ok (.aload_n 0, 1) := by decide +kernel
theorem dX9_readsBoat_2 : decode cX9_readsBoat 2 = .ok (.getfield 82, 3) := by decide +kernel
theorem dX9_readsBoat_5 : decode cX9_readsBoat 5 = .ok (.imul, 1) := by decide +kernel
theorem dX9_readsBoat_6 : decode cX9_readsBoat 6 = .ok (.istore_n 1, 1) := by decide +kernel
theorem dX9_readsBoat_7 : decode cX9_readsBoat 7 = .ok (.aload_n 0, 1) := by decide +kernel
theorem dX9_readsBoat_8 : decode cX9_readsBoat 8 = .ok (.getfield 27, 3) := by decide +kernel
theorem dX9_readsBoat_11 : decode cX9_readsBoat 11 = .ok (.iload_n 1, 1) := by decide +kernel
theorem dX9_readsBoat_12 : decode cX9_readsBoat 12 = .ok (.aload_n 0, 1) := by decide +kernel
theorem dX9_readsBoat_13 : decode cX9_readsBoat 13 = .ok (.invokevirtual 85, 3) := by decide +kernel
theorem dX9_readsBoat_16 : decode cX9_readsBoat 16 = .ok (.iastore, 1) := by decide +kernel
theorem dX9_readsBoat_17 : decode cX9_readsBoat 17 = .ok (.aload_n 0, 1) := by decide +kernel
theorem dX9_readsBoat_18 : decode cX9_readsBoat 18 = .ok (.bipush 43, 2) := by decide +kernel
theorem dX9_readsBoat_20 : decode cX9_readsBoat 20 = .ok (.bipush 43, 2) := by decide +kernel
theorem dX9_readsBoat_22 : decode cX9_readsBoat 22 = .ok (.invokevirtual 75, 3) := by decide +kernel
theorem dX9_readsBoat_25 : decode cX9_readsBoat 25 = .ok (.ifCond .ne 18, 3) := by decide +kernel
theorem dX9_readsBoat_28 : decode cX9_readsBoat 28 = .ok (.aload_n 0, 1) := by decide +kernel
theorem dX9_readsBoat_29 : decode cX9_readsBoat 29 = .ok (.bipush 45, 2) := by decide +kernel
theorem dX9_readsBoat_31 : decode cX9_readsBoat 31 = .ok (.bipush 45, 2) := by decide +kernel
theorem dX9_readsBoat_33 : decode cX9_readsBoat 33 = .ok (.invokevirtual 75, 3) := by decide +kernel
theorem dX9_readsBoat_36 : decode cX9_readsBoat 36 = .ok (.ifCond .ne 7, 3) := by decide +kernel
theorem dX9_readsBoat_39 : decode cX9_readsBoat 39 = .ok (.aload_n 0, 1) := by decide +kernel
theorem dX9_readsBoat_40 : decode cX9_readsBoat 40 = .ok (.invokevirtual 79, 3) := by decide +kernel
theorem dX9_readsBoat_43 : decode cX9_readsBoat 43 = .ok (.aload_n 0, 1) := by decide +kernel
theorem dX9_readsBoat_44 : decode cX9_readsBoat 44 = .ok (.getfield 69, 3) := by decide +kernel
theorem dX9_readsBoat_47 : decode cX9_readsBoat 47 = .ok (.ifCond .lt 4, 3) := by decide +kernel
theorem dX9_readsBoat_50 : decode cX9_readsBoat 50 = .ok (.return_, 1) := by decide +kernel
theorem dX9_readsBoat_51 : decode cX9_readsBoat 51 = .ok (.aload_n 0, 1) := by decide +kernel
theorem dX9_readsBoat_52 : decode cX9_readsBoat 52 = .ok (.getfield 27, 3) := by decide +kernel
theorem dX9_readsBoat_55 : decode cX9_readsBoat 55 = .ok (.iload_n 1, 1) := by decide +kernel
theorem dX9_readsBoat_56 : decode cX9_readsBoat 56 = .ok (.iconst 3, 1) := by decide +kernel
theorem dX9_readsBoat_57 : decode cX9_readsBoat 57 = .ok (.iadd, 1) := by decide +kernel
theorem dX9_readsBoat_58 : decode cX9_readsBoat 58 = .ok (.aload_n 0, 1) := by decide +kernel
theorem dX9_readsBoat_59 : decode cX9_readsBoat 59 = .ok (.getfield 24, 3) := by decide +kernel
theorem dX9_readsBoat_62 : decode cX9_readsBoat 62 = .ok (.aload_n 0, 1) := by decide +kernel
theorem dX9_readsBoat_63 : decode cX9_readsBoat 63 = .ok (.getfield 72, 3) := by decide +kernel
theorem dX9_readsBoat_66 : decode cX9_readsBoat 66 = .ok (.iaload, 1) := by decide +kernel
theorem dX9_readsBoat_67 : decode cX9_readsBoat 67 = .ok (.bipush 43, 2) := by decide +kernel
theorem dX9_readsBoat_69 : decode cX9_readsBoat 69 = .ok (.if_icmp .ne 7, 3) := by decide +kernel
theorem dX9_readsBoat_72 : decode cX9_readsBoat 72 = .ok (.iconst 1, 1) := by decide +kernel
theorem dX9_readsBoat_73 : decode cX9_readsBoat 73 = .ok (.goto 4, 3) := by decide +kernel
theorem dX9_readsBoat_76 : decode cX9_readsBoat 76 = .ok (.iconst 0, 1) := by decide +kernel
theorem dX9_readsBoat_77 : decode cX9_readsBoat 77 = .ok (.iastore, 1) := by decide +kernel
theorem dX9_readsBoat_78 : decode cX9_readsBoat 78 = .ok (.aload_n 0, 1) := by decide +kernel
theorem dX9_readsBoat_79 : decode cX9_readsBoat 79 = .ok (.dup, 1) := by decide +kernel
theorem dX9_readsBoat_80 : decode cX9_readsBoat 80 = .ok (.getfield 72, 3) := by decide +kernel
theorem dX9_readsBoat_83 : decode cX9_readsBoat 83 = .ok (.iconst 1, 1) := by decide +kernel
theorem dX9_readsBoat_84 : decode cX9_readsBoat 84 = .ok (.iadd, 1) := by decide +kernel
theorem dX9_readsBoat_85 : decode cX9_readsBoat 85 = .ok (.putfield 72, 3) := by decide +kernel
theorem dX9_readsBoat_88 : decode cX9_readsBoat 88 = .ok (.aload_n 0, 1) := by decide +kernel
theorem dX9_readsBoat_89 : decode cX9_readsBoat 89 = .ok (.getfield 27, 3) := by decide +kernel
theorem dX9_readsBoat_92 : decode cX9_readsBoat 92 = .ok (.iload_n 1, 1) := by decide +kernel
theorem dX9_readsBoat_93 : decode cX9_readsBoat 93 = .ok (.iconst 1, 1) := by decide +kernel
theorem dX9_readsBoat_94 : decode cX9_readsBoat 94 = .ok (.iadd, 1) := by decide +kernel
theorem dX9_readsBoat_95 : decode cX9_readsBoat 95 = .ok (.aload_n 0, 1) := by decide +kernel
theorem dX9_readsBoat_96 : decode cX9_readsBoat 96 = .ok (.bipush 9, 2) := by decide +kernel
theorem dX9_readsBoat_98 : decode cX9_readsBoat 98 = .ok (.invokevirtual 89, 3) := by decide +kernel
theorem dX9_readsBoat_101 : decode cX9_readsBoat 101 = .ok (.iastore, 1) := by decide +kernel
theorem dX9_readsBoat_102 : decode cX9_readsBoat 102 = .ok (.aload_n 0, 1) := by decide +kernel
theorem dX9_readsBoat_103 : decode cX9_readsBoat 103 = .ok (.getfield 27, 3) := by decide +kernel
theorem dX9_readsBoat_106 : decode cX9_readsBoat 106 = .ok (.iload_n 1, 1) := by decide +kernel
theorem dX9_readsBoat_107 : decode cX9_readsBoat 107 = .ok (.iconst 2, 1) := by decide +kernel
theorem dX9_readsBoat_108 : decode cX9_readsBoat 108 = .ok (.iadd, 1) := by decide +kernel
theorem dX9_readsBoat_109 : decode cX9_readsBoat 109 = .ok (.aload_n 0, 1) := by decide +kernel
theorem dX9_readsBoat_110 : decode cX9_readsBoat 110 = .ok (.bipush 9, 2) := by decide +kernel
theorem dX9_readsBoat_112 : decode cX9_readsBoat 112 = .ok (.invokevirtual 89, 3) := by decide +kernel
theorem dX9_readsBoat_115 : decode cX9_readsBoat 115 = .ok (.iastore, 1) := by decide +kernel
theorem dX9_readsBoat_116 : decode cX9_readsBoat 116 = .ok (.aload_n 0, 1) := by decide +kernel
theorem dX9_readsBoat_117 : decode cX9_readsBoat 117 = .ok (.getfield 27, 3) := by decide +kernel
theorem dX9_readsBoat_120 : decode cX9_readsBoat 120 = .ok (.iload_n 1, 1) := by decide +kernel
theorem dX9_readsBoat_121 : decode cX9_readsBoat 121 = .ok (.iconst 4, 1) := by decide +kernel
theorem dX9_readsBoat_122 : decode cX9_readsBoat 122 = .ok (.iadd, 1) := by decide +kernel
theorem dX9_readsBoat_123 : decode cX9_readsBoat 123 = .ok (.aload_n 0, 1) := by decide +kernel
theorem dX9_readsBoat_124 : decode cX9_readsBoat 124 = .ok (.aload_n 0, 1) := by decide +kernel
theorem dX9_readsBoat_125 : decode cX9_readsBoat 125 = .ok (.getfield 9, 3) := by decide +kernel
theorem dX9_readsBoat_128 : decode cX9_readsBoat 128 = .ok (.bipush 53, 2) := by decide +kernel
theorem dX9_readsBoat_130 : decode cX9_readsBoat 130 = .ok (.iaload, 1) := by decide +kernel
theorem dX9_readsBoat_131 : decode cX9_readsBoat 131 = .ok (.invokevirtual 89, 3) := by decide +kernel
theorem dX9_readsBoat_134 : decode cX9_readsBoat 134 = .ok (.iastore, 1) := by decide +kernel
theorem dX9_readsBoat_135 : decode cX9_readsBoat 135 = .ok (.aload_n 0, 1) := by decide +kernel
theorem dX9_readsBoat_136 : decode cX9_readsBoat 136 = .ok (.dup, 1) := by decide +kernel
theorem dX9_readsBoat_137 : decode cX9_readsBoat 137 = .ok (.getfield 82, 3) := by decide +kernel
theorem dX9_readsBoat_140 : decode cX9_readsBoat 140 = .ok (.iconst 1, 1) := by decide +kernel
theorem dX9_readsBoat_141 : decode cX9_readsBoat 141 = .ok (.iadd, 1) := by decide +kernel
theorem dX9_readsBoat_142 : decode cX9_readsBoat 142 = .ok (.putfield 82, 3) := by decide +kernel
theorem dX9_readsBoat_145 : decode cX9_readsBoat 145 = .ok (.return_, 1) := by decide +kernel
theorem dX9_where_0 : decode cX9_where 0 = .ok (.iconst 0, 1) := by decide +kernel
theorem dX9_where_1 : decode cX9_where 1 = .ok (.istore_n 2, 1) := by decide +kernel
theorem dX9_where_2 : decode cX9_where 2 = .ok (.iload_n 2, 1) := by decide +kernel
theorem dX9_where_3 : decode cX9_where 3 = .ok (.aload_n 0, 1) := by decide +kernel
theorem dX9_where_4 : decode cX9_where 4 = .ok (.getfield 9, 3) := by decide +kernel
theorem dX9_where_7 : decode cX9_where 7 = .ok (.bipush 114, 2) := by decide +kernel
theorem dX9_where_9 : decode cX9_where 9 = .ok (.iaload, 1) := by decide +kernel
theorem dX9_where_10 : decode cX9_where 10 = .ok (.if_icmp .ge 22, 3) := by decide +kernel
theorem dX9_where_13 : decode cX9_where 13 = .ok (.aload_n 0, 1) := by decide +kernel
theorem dX9_where_14 : decode cX9_where 14 = .ok (.getfield 9, 3) := by decide +kernel
theorem dX9_where_17 : decode cX9_where 17 = .ok (.bipush 54, 2) := by decide +kernel
theorem dX9_where_19 : decode cX9_where 19 = .ok (.iload_n 2, 1) := by decide +kernel
theorem dX9_where_20 : decode cX9_where 20 = .ok (.iadd, 1) := by decide +kernel
theorem dX9_where_21 : decode cX9_where 21 = .ok (.iaload, 1) := by decide +kernel
theorem dX9_where_22 : decode cX9_where 22 = .ok (.iload_n 1, 1) := by decide +kernel
theorem dX9_where_23 : decode cX9_where 23 = .ok (.if_icmp .ge 9, 3) := by decide +kernel
theorem dX9_where_26 : decode cX9_where 26 = .ok (.iinc 2 1, 3) := by decide +kernel
theorem dX9_where_29 : decode cX9_where 29 = .ok (.goto (-27), 3) := by decide +kernel
theorem dX9_where_32 : decode cX9_where 32 = .ok (.iload_n 2, 1) := by decide +kernel
theorem dX9_where_33 : decode cX9_where 33 = .ok (.ireturn, 1) := by decide +kernel
theorem dX9_isThere_0 : decode cX9_isThere 0 = .ok (.iload_n 1, 1) := by decide +kernel
theorem dX9_isThere_1 : decode cX9_isThere 1 = .ok (.aload_n 0, 1) := by decide +kernel
theorem dX9_isThere_2 : decode cX9_isThere 2 = .ok (.getfield 9, 3) := by decide +kernel
theorem dX9_isThere_5 : decode cX9_isThere 5 = .ok (.bipush 114, 2) := by decide +kernel
theorem dX9_isThere_7 : decode cX9_isThere 7 = .ok (.iaload, 1) := by decide +kernel
theorem dX9_isThere_8 : decode cX9_isThere 8 = .ok (.if_icmp .ge 20, 3) := by decide +kernel
theorem dX9_isThere_11 : decode cX9_isThere 11 = .ok (.aload_n 0, 1) := by decide +kernel
theorem dX9_isThere_12 : decode cX9_isThere 12 = .ok (.getfield 9, 3) := by decide +kernel
theorem dX9_isThere_15 : decode cX9_isThere 15 = .ok (.bipush 54, 2) := by decide +kernel
theorem dX9_isThere_17 : decode cX9_isThere 17 = .ok (.iload_n 1, 1) := by decide +kernel
theorem dX9_isThere_18 : decode cX9_isThere 18 = .ok (.iadd, 1) := by decide +kernel
theorem dX9_isThere_19 : decode cX9_isThere 19 = .ok (.iaload, 1) := by decide +kernel
theorem dX9_isThere_20 : decode cX9_isThere 20 = .ok (.iload_n 2, 1) := by decide +kernel
theorem dX9_isThere_21 : decode cX9_isThere 21 = .ok (.if_icmp .ne 7, 3) := by decide +kernel
theorem dX9_isThere_24 : decode cX9_isThere 24 = .ok (.iconst 1, 1) := by decide +kernel
theorem dX9_isThere_25 : decode cX9_isThere 25 = .ok (.goto 4, 3) := by decide +kernel
theorem dX9_isThere_28 : decode cX9_isThere 28 = .ok (.iconst 0, 1) := by decide +kernel
theorem dX9_isThere_29 : decode cX9_isThere 29 = .ok (.ireturn, 1) := by decide +kernel
theorem dX9_shifts_0 : decode cX9_shifts 0 = .ok (.iconst 0, 1) := by decide +kernel
theorem dX9_shifts_1 : decode cX9_shifts 1 = .ok (.istore_n 3, 1) := by decide +kernel
theorem dX9_shifts_2 : decode cX9_shifts 2 = .ok (.iload_n 3, 1) := by decide +kernel
theorem dX9_shifts_3 : decode cX9_shifts 3 = .ok (.iconst 5, 1) := by decide +kernel
theorem dX9_shifts_4 : decode cX9_shifts 4 = .ok (.if_icmp .ge 37, 3) := by decide +kernel
theorem dX9_shifts_7 : decode cX9_shifts 7 = .ok (.aload_n 0, 1) := by decide +kernel
theorem dX9_shifts_8 : decode cX9_shifts 8 = .ok (.getfield 9, 3) := by decide +kernel
theorem dX9_shifts_11 : decode cX9_shifts 11 = .ok (.bipush 54, 2) := by decide +kernel
theorem dX9_shifts_13 : decode cX9_shifts 13 = .ok (.bipush 12, 2) := by decide +kernel
theorem dX9_shifts_15 : decode cX9_shifts 15 = .ok (.iload_n 3, 1) := by decide +kernel
theorem dX9_shifts_16 : decode cX9_shifts 16 = .ok (.imul, 1) := by decide +kernel
theorem dX9_shifts_17 : decode cX9_shifts 17 = .ok (.iadd, 1) := by decide +kernel
theorem dX9_shifts_18 : decode cX9_shifts 18 = .ok (.iload_n 2, 1) := by decide +kernel
theorem dX9_shifts_19 : decode cX9_shifts 19 = .ok (.iadd, 1) := by decide +kernel
theorem dX9_shifts_20 : decode cX9_shifts 20 = .ok (.aload_n 0, 1) := by decide +kernel
theorem dX9_shifts_21 : decode cX9_shifts 21 = .ok (.getfield 9, 3) := by decide +kernel
theorem dX9_shifts_24 : decode cX9_shifts 24 = .ok (.bipush 54, 2) := by decide +kernel
theorem dX9_shifts_26 : decode cX9_shifts 26 = .ok (.bipush 12, 2) := by decide +kernel
theorem dX9_shifts_28 : decode cX9_shifts 28 = .ok (.iload_n 3, 1) := by decide +kernel
theorem dX9_shifts_29 : decode cX9_shifts 29 = .ok (.imul, 1) := by decide +kernel
theorem dX9_shifts_30 : decode cX9_shifts 30 = .ok (.iadd, 1) := by decide +kernel
theorem dX9_shifts_31 : decode cX9_shifts 31 = .ok (.iload_n 1, 1) := by decide +kernel
theorem dX9_shifts_32 : decode cX9_shifts 32 = .ok (.iadd, 1) := by decide +kernel
theorem dX9_shifts_33 : decode cX9_shifts 33 = .ok (.iaload, 1) := by decide +kernel
theorem dX9_shifts_34 : decode cX9_shifts 34 = .ok (.iastore, 1) := by decide +kernel
theorem dX9_shifts_35 : decode cX9_shifts 35 = .ok (.iinc 3 1, 3) := by decide +kernel
theorem dX9_shifts_38 : decode cX9_shifts 38 = .ok (.goto (-36), 3) := by decide +kernel
theorem dX9_shifts_41 : decode cX9_shifts 41 = .ok (.return_, 1) := by decide +kernel
theorem dX9_comes_0 : decode cX9_comes 0 = .ok (.aload_n 0, 1) := by decide +kernel
theorem dX9_comes_1 : decode cX9_comes 1 = .ok (.aload_n 0, 1) := by decide +kernel
theorem dX9_comes_2 : decode cX9_comes 2 = .ok (.getfield 27, 3) := by decide +kernel
theorem dX9_comes_5 : decode cX9_comes 5 = .ok (.iconst 5, 1) := by decide +kernel
theorem dX9_comes_6 : decode cX9_comes 6 = .ok (.iload_n 1, 1) := by decide +kernel
theorem dX9_comes_7 : decode cX9_comes 7 = .ok (.imul, 1) := by decide +kernel
theorem dX9_comes_8 : decode cX9_comes 8 = .ok (.iaload, 1) := by decide +kernel
theorem dX9_comes_9 : decode cX9_comes 9 = .ok (.invokevirtual 92, 3) := by decide +kernel
theorem dX9_comes_12 : decode cX9_comes 12 = .ok (.istore_n 2, 1) := by decide +kernel
theorem dX9_comes_13 : decode cX9_comes 13 = .ok (.aload_n 0, 1) := by decide +kernel
theorem dX9_comes_14 : decode cX9_comes 14 = .ok (.iload_n 2, 1) := by decide +kernel
theorem dX9_comes_15 : decode cX9_comes 15 = .ok (.aload_n 0, 1) := by decide +kernel
theorem dX9_comes_16 : decode cX9_comes 16 = .ok (.getfield 27, 3) := by decide +kernel
theorem dX9_comes_19 : decode cX9_comes 19 = .ok (.iconst 5, 1) := by decide +kernel
theorem dX9_comes_20 : decode cX9_comes 20 = .ok (.iload_n 1, 1) := by decide +kernel
theorem dX9_comes_21 : decode cX9_comes 21 = .ok (.imul, 1) := by decide +kernel
theorem dX9_comes_22 : decode cX9_comes 22 = .ok (.iaload, 1) := by decide +kernel
theorem dX9_comes_23 : decode cX9_comes 23 = .ok (.invokevirtual 95, 3) := by decide +kernel
theorem dX9_comes_26 : decode cX9_comes 26 = .ok (.ifCond .ne 55, 3) := by decide +kernel
theorem dX9_comes_29 : decode cX9_comes 29 = .ok (.aload_n 0, 1) := by decide +kernel
theorem dX9_comes_30 : decode cX9_comes 30 = .ok (.getfield 9, 3) := by decide +kernel
theorem dX9_comes_33 : decode cX9_comes 33 = .ok (.bipush 114, 2) := by decide +kernel
theorem dX9_comes_35 : decode cX9_comes 35 = .ok (.iaload, 1) := by decide +kernel
theorem dX9_comes_36 : decode cX9_comes 36 = .ok (.bipush 12, 2) := by decide +kernel
theorem dX9_comes_38 : decode cX9_comes 38 = .ok (.if_icmp .ne 5, 3) := by decide +kernel
theorem dX9_comes_41 : decode cX9_comes 41 = .ok (.iconst 0, 1) := by decide +kernel
theorem dX9_comes_42 : decode cX9_comes 42 = .ok (.ireturn, 1) := by decide +kernel
theorem dX9_comes_43 : decode cX9_comes 43 = .ok (.aload_n 0, 1) := by decide +kernel
theorem dX9_comes_44 : decode cX9_comes 44 = .ok (.getfield 9, 3) := by decide +kernel
theorem dX9_comes_47 : decode cX9_comes 47 = .ok (.bipush 114, 2) := by decide +kernel
theorem dX9_comes_49 : decode cX9_comes 49 = .ok (.iaload, 1) := by decide +kernel
theorem dX9_comes_50 : decode cX9_comes 50 = .ok (.istore_n 3, 1) := by decide +kernel
theorem dX9_comes_51 : decode cX9_comes 51 = .ok (.iload_n 3, 1) := by decide +kernel
theorem dX9_comes_52 : decode cX9_comes 52 = .ok (.iload_n 2, 1) := by decide +kernel
theorem dX9_comes_53 : decode cX9_comes 53 = .ok (.if_icmp .le 17, 3) := by decide +kernel
theorem dX9_comes_56 : decode cX9_comes 56 = .ok (.aload_n 0, 1) := by decide +kernel
theorem dX9_comes_57 : decode cX9_comes 57 = .ok (.iload_n 3, 1) := by decide +kernel
theorem dX9_comes_58 : decode cX9_comes 58 = .ok (.iconst 1, 1) := by decide +kernel
theorem dX9_comes_59 : decode cX9_comes 59 = .ok (.isub, 1) := by decide +kernel
theorem dX9_comes_60 : decode cX9_comes 60 = .ok (.iload_n 3, 1) := by decide +kernel
theorem dX9_comes_61 : decode cX9_comes 61 = .ok (.invokevirtual 98, 3) := by decide +kernel
theorem dX9_comes_64 : decode cX9_comes 64 = .ok (.iinc 3 (-1), 3) := by decide +kernel
theorem dX9_comes_67 : decode cX9_comes 67 = .ok (.goto (-16), 3) := by decide +kernel
theorem dX9_comes_70 : decode cX9_comes 70 = .ok (.aload_n 0, 1) := by decide +kernel
theorem dX9_comes_71 : decode cX9_comes 71 = .ok (.getfield 9, 3) := by decide +kernel
theorem dX9_comes_74 : decode cX9_comes 74 = .ok (.bipush 114, 2) := by decide +kernel
theorem dX9_comes_76 : decode cX9_comes 76 = .ok (.dup2, 1) := by decide +kernel
theorem dX9_comes_77 : decode cX9_comes 77 = .ok (.iaload, 1) := by decide +kernel
theorem dX9_comes_78 : decode cX9_comes 78 = .ok (.iconst 1, 1) := by decide +kernel
theorem dX9_comes_79 : decode cX9_comes 79 = .ok (.iadd, 1) := by decide +kernel
theorem dX9_comes_80 : decode cX9_comes 80 = .ok (.iastore, 1) := by decide +kernel
theorem dX9_comes_81 : decode cX9_comes 81 = .ok (.iconst 0, 1) := by decide +kernel
theorem dX9_comes_82 : decode cX9_comes 82 = .ok (.istore_n 3, 1) := by decide +kernel
theorem dX9_comes_83 : decode cX9_comes 83 = .ok (.iload_n 3, 1) := by decide +kernel
theorem dX9_comes_84 : decode cX9_comes 84 = .ok (.iconst 5, 1) := by decide +kernel
theorem dX9_comes_85 : decode cX9_comes 85 = .ok (.if_icmp .ge 33, 3) := by decide +kernel
theorem dX9_comes_88 : decode cX9_comes 88 = .ok (.aload_n 0, 1) := by decide +kernel
theorem dX9_comes_89 : decode cX9_comes 89 = .ok (.getfield 9, 3) := by decide +kernel
theorem dX9_comes_92 : decode cX9_comes 92 = .ok (.bipush 54, 2) := by decide +kernel
theorem dX9_comes_94 : decode cX9_comes 94 = .ok (.bipush 12, 2) := by decide +kernel
theorem dX9_comes_96 : decode cX9_comes 96 = .ok (.iload_n 3, 1) := by decide +kernel
theorem dX9_comes_97 : decode cX9_comes 97 = .ok (.imul, 1) := by decide +kernel
theorem dX9_comes_98 : decode cX9_comes 98 = .ok (.iadd, 1) := by decide +kernel
theorem dX9_comes_99 : decode cX9_comes 99 = .ok (.iload_n 2, 1) := by decide +kernel
theorem dX9_comes_100 : decode cX9_comes 100 = .ok (.iadd, 1) := by decide +kernel
theorem dX9_comes_101 : decode cX9_comes 101 = .ok (.aload_n 0, 1) := by decide +kernel
theorem dX9_comes_102 : decode cX9_comes 102 = .ok (.getfield 27, 3) := by decide +kernel
theorem dX9_comes_105 : decode cX9_comes 105 = .ok (.iconst 5, 1) := by decide +kernel
theorem dX9_comes_106 : decode cX9_comes 106 = .ok (.iload_n 1, 1) := by decide +kernel
theorem dX9_comes_107 : decode cX9_comes 107 = .ok (.imul, 1) := by decide +kernel
theorem dX9_comes_108 : decode cX9_comes 108 = .ok (.iload_n 3, 1) := by decide +kernel
theorem dX9_comes_109 : decode cX9_comes 109 = .ok (.iadd, 1) := by decide +kernel
theorem dX9_comes_110 : decode cX9_comes 110 = .ok (.iaload, 1) := by decide +kernel
theorem dX9_comes_111 : decode cX9_comes 111 = .ok (.iastore, 1) := by decide +kernel
theorem dX9_comes_112 : decode cX9_comes 112 = .ok (.iinc 3 1, 3) := by decide +kernel
theorem dX9_comes_115 : decode cX9_comes 115 = .ok (.goto (-32), 3) := by decide +kernel
theorem dX9_comes_118 : decode cX9_comes 118 = .ok (.iconst 1, 1) := by decide +kernel
theorem dX9_comes_119 : decode cX9_comes 119 = .ok (.ireturn, 1) := by decide +kernel
theorem dX9_boats_0 : decode cX9_boats 0 = .ok (.aload_n 0, 1) := by decide +kernel
theorem dX9_boats_1 : decode cX9_boats 1 = .ok (.iconst 0, 1) := by decide +kernel
theorem dX9_boats_2 : decode cX9_boats 2 = .ok (.putfield 72, 3) := by decide +kernel
theorem dX9_boats_5 : decode cX9_boats 5 = .ok (.aload_n 0, 1) := by decide +kernel
theorem dX9_boats_6 : decode cX9_boats 6 = .ok (.iconst (-1), 1) := by decide +kernel
theorem dX9_boats_7 : decode cX9_boats 7 = .ok (.putfield 69, 3) := by decide +kernel
theorem dX9_boats_10 : decode cX9_boats 10 = .ok (.aload_n 0, 1) := by decide +kernel
theorem dX9_boats_11 : decode cX9_boats 11 = .ok (.iconst 0, 1) := by decide +kernel
theorem dX9_boats_12 : decode cX9_boats 12 = .ok (.putfield 82, 3) := by decide +kernel
theorem dX9_boats_15 : decode cX9_boats 15 = .ok (.aload_n 0, 1) := by decide +kernel
theorem dX9_boats_16 : decode cX9_boats 16 = .ok (.invokevirtual 102, 3) := by decide +kernel
theorem dX9_boats_19 : decode cX9_boats 19 = .ok (.aload_n 0, 1) := by decide +kernel
theorem dX9_boats_20 : decode cX9_boats 20 = .ok (.bipush 44, 2) := by decide +kernel
theorem dX9_boats_22 : decode cX9_boats 22 = .ok (.bipush 44, 2) := by decide +kernel
theorem dX9_boats_24 : decode cX9_boats 24 = .ok (.invokevirtual 75, 3) := by decide +kernel
theorem dX9_boats_27 : decode cX9_boats 27 = .ok (.ifCond .eq 20, 3) := by decide +kernel
theorem dX9_boats_30 : decode cX9_boats 30 = .ok (.aload_n 0, 1) := by decide +kernel
theorem dX9_boats_31 : decode cX9_boats 31 = .ok (.dup, 1) := by decide +kernel
theorem dX9_boats_32 : decode cX9_boats 32 = .ok (.getfield 72, 3) := by decide +kernel
theorem dX9_boats_35 : decode cX9_boats 35 = .ok (.iconst 1, 1) := by decide +kernel
theorem dX9_boats_36 : decode cX9_boats 36 = .ok (.iadd, 1) := by decide +kernel
theorem dX9_boats_37 : decode cX9_boats 37 = .ok (.putfield 72, 3) := by decide +kernel
theorem dX9_boats_40 : decode cX9_boats 40 = .ok (.aload_n 0, 1) := by decide +kernel
theorem dX9_boats_41 : decode cX9_boats 41 = .ok (.invokevirtual 102, 3) := by decide +kernel
theorem dX9_boats_44 : decode cX9_boats 44 = .ok (.goto (-25), 3) := by decide +kernel
theorem dX9_boats_47 : decode cX9_boats 47 = .ok (.aload_n 0, 1) := by decide +kernel
theorem dX9_boats_48 : decode cX9_boats 48 = .ok (.getfield 69, 3) := by decide +kernel
theorem dX9_boats_51 : decode cX9_boats 51 = .ok (.ifCond .ge 18, 3) := by decide +kernel
theorem dX9_boats_54 : decode cX9_boats 54 = .ok (.aload_n 0, 1) := by decide +kernel
theorem dX9_boats_55 : decode cX9_boats 55 = .ok (.getfield 72, 3) := by decide +kernel
theorem dX9_boats_58 : decode cX9_boats 58 = .ok (.aload_n 0, 1) := by decide +kernel
theorem dX9_boats_59 : decode cX9_boats 59 = .ok (.getfield 65, 3) := by decide +kernel
theorem dX9_boats_62 : decode cX9_boats 62 = .ok (.if_icmp .ge 7, 3) := by decide +kernel
theorem dX9_boats_65 : decode cX9_boats 65 = .ok (.aload_n 0, 1) := by decide +kernel
theorem dX9_boats_66 : decode cX9_boats 66 = .ok (.invokevirtual 79, 3) := by decide +kernel
theorem dX9_boats_69 : decode cX9_boats 69 = .ok (.aload_n 0, 1) := by decide +kernel
theorem dX9_boats_70 : decode cX9_boats 70 = .ok (.iconst 0, 1) := by decide +kernel
theorem dX9_boats_71 : decode cX9_boats 71 = .ok (.putfield 65, 3) := by decide +kernel
theorem dX9_boats_74 : decode cX9_boats 74 = .ok (.aload_n 0, 1) := by decide +kernel
theorem dX9_boats_75 : decode cX9_boats 75 = .ok (.getfield 69, 3) := by decide +kernel
theorem dX9_boats_78 : decode cX9_boats 78 = .ok (.ifCond .lt 11, 3) := by decide +kernel
theorem dX9_boats_81 : decode cX9_boats 81 = .ok (.bipush (-100), 2) := by decide +kernel
theorem dX9_boats_83 : decode cX9_boats 83 = .ok (.aload_n 0, 1) := by decide +kernel
theorem dX9_boats_84 : decode cX9_boats 84 = .ok (.getfield 69, 3) := by decide +kernel
theorem dX9_boats_87 : decode cX9_boats 87 = .ok (.isub, 1) := by decide +kernel
theorem dX9_boats_88 : decode cX9_boats 88 = .ok (.ireturn, 1) := by decide +kernel
theorem dX9_boats_89 : decode cX9_boats 89 = .ok (.aload_n 0, 1) := by decide +kernel
theorem dX9_boats_90 : decode cX9_boats 90 = .ok (.getfield 9, 3) := by decide +kernel
theorem dX9_boats_93 : decode cX9_boats 93 = .ok (.aload_n 0, 1) := by decide +kernel
theorem dX9_boats_94 : decode cX9_boats 94 = .ok (.getfield 18, 3) := by decide +kernel
theorem dX9_boats_97 : decode cX9_boats 97 = .ok (.invokestatic 105, 3) := by decide +kernel
theorem dX9_boats_100 : decode cX9_boats 100 = .ok (.iconst 0, 1) := by decide +kernel
theorem dX9_boats_101 : decode cX9_boats 101 = .ok (.istore_n 1, 1) := by decide +kernel
theorem dX9_boats_102 : decode cX9_boats 102 = .ok (.iload_n 1, 1) := by decide +kernel
theorem dX9_boats_103 : decode cX9_boats 103 = .ok (.aload_n 0, 1) := by decide +kernel
theorem dX9_boats_104 : decode cX9_boats 104 = .ok (.getfield 82, 3) := by decide +kernel
theorem dX9_boats_107 : decode cX9_boats 107 = .ok (.if_icmp .ge 31, 3) := by decide +kernel
theorem dX9_boats_110 : decode cX9_boats 110 = .ok (.aload_n 0, 1) := by decide +kernel
theorem dX9_boats_111 : decode cX9_boats 111 = .ok (.iload_n 1, 1) := by decide +kernel
theorem dX9_boats_112 : decode cX9_boats 112 = .ok (.invokevirtual 109, 3) := by decide +kernel
theorem dX9_boats_115 : decode cX9_boats 115 = .ok (.ifCond .ne 17, 3) := by decide +kernel
theorem dX9_boats_118 : decode cX9_boats 118 = .ok (.aload_n 0, 1) := by decide +kernel
theorem dX9_boats_119 : decode cX9_boats 119 = .ok (.getfield 18, 3) := by decide +kernel
theorem dX9_boats_122 : decode cX9_boats 122 = .ok (.aload_n 0, 1) := by decide +kernel
theorem dX9_boats_123 : decode cX9_boats 123 = .ok (.getfield 9, 3) := by decide +kernel
theorem dX9_boats_126 : decode cX9_boats 126 = .ok (.invokestatic 105, 3) := by decide +kernel
theorem dX9_boats_129 : decode cX9_boats 129 = .ok (.bipush (-3), 2) := by decide +kernel
theorem dX9_boats_131 : decode cX9_boats 131 = .ok (.ireturn, 1) := by decide +kernel
theorem dX9_boats_132 : decode cX9_boats 132 = .ok (.iinc 1 1, 3) := by decide +kernel
theorem dX9_boats_135 : decode cX9_boats 135 = .ok (.goto (-33), 3) := by decide +kernel
theorem dX9_boats_138 : decode cX9_boats 138 = .ok (.aload_n 0, 1) := by decide +kernel
theorem dX9_boats_139 : decode cX9_boats 139 = .ok (.getfield 82, 3) := by decide +kernel
theorem dX9_boats_142 : decode cX9_boats 142 = .ok (.ireturn, 1) := by decide +kernel
theorem dX9_letter_0 : decode cX9_letter 0 = .ok (.iload_n 0, 1) := by decide +kernel
theorem dX9_letter_1 : decode cX9_letter 1 = .ok (.istore_n 2, 1) := by decide +kernel
theorem dX9_letter_2 : decode cX9_letter 2 = .ok (.iconst 3, 1) := by decide +kernel
theorem dX9_letter_3 : decode cX9_letter 3 = .ok (.istore_n 3, 1) := by decide +kernel
theorem dX9_letter_4 : decode cX9_letter 4 = .ok (.iload_n 3, 1) := by decide +kernel
theorem dX9_letter_5 : decode cX9_letter 5 = .ok (.iload_n 1, 1) := by decide +kernel
theorem dX9_letter_6 : decode cX9_letter 6 = .ok (.if_icmp .le 14, 3) := by decide +kernel
theorem dX9_letter_9 : decode cX9_letter 9 = .ok (.iload_n 2, 1) := by decide +kernel
theorem dX9_letter_10 : decode cX9_letter 10 = .ok (.bipush 27, 2) := by decide +kernel
theorem dX9_letter_12 : decode cX9_letter 12 = .ok (.idiv, 1) := by decide +kernel
theorem dX9_letter_13 : decode cX9_letter 13 = .ok (.istore_n 2, 1) := by decide +kernel
theorem dX9_letter_14 : decode cX9_letter 14 = .ok (.iinc 3 (-1), 3) := by decide +kernel
theorem dX9_letter_17 : decode cX9_letter 17 = .ok (.goto (-13), 3) := by decide +kernel
theorem dX9_letter_20 : decode cX9_letter 20 = .ok (.iload_n 2, 1) := by decide +kernel
theorem dX9_letter_21 : decode cX9_letter 21 = .ok (.bipush 27, 2) := by decide +kernel
theorem dX9_letter_23 : decode cX9_letter 23 = .ok (.irem, 1) := by decide +kernel
theorem dX9_letter_24 : decode cX9_letter 24 = .ok (.ireturn, 1) := by decide +kernel
theorem dX9_boat_0 : decode cX9_boat 0 = .ok (.aload_n 0, 1) := by decide +kernel
theorem dX9_boat_1 : decode cX9_boat 1 = .ok (.iload_n 1, 1) := by decide +kernel
theorem dX9_boat_2 : decode cX9_boat 2 = .ok (.invokevirtual 112, 3) := by decide +kernel
theorem dX9_boat_5 : decode cX9_boat 5 = .ok (.ifCond .eq 18, 3) := by decide +kernel
theorem dX9_boat_8 : decode cX9_boat 8 = .ok (.iload_n 2, 1) := by decide +kernel
theorem dX9_boat_9 : decode cX9_boat 9 = .ok (.ifCond .lt 14, 3) := by decide +kernel
theorem dX9_boat_12 : decode cX9_boat 12 = .ok (.iload_n 2, 1) := by decide +kernel
theorem dX9_boat_13 : decode cX9_boat 13 = .ok (.iconst 4, 1) := by decide +kernel
theorem dX9_boat_14 : decode cX9_boat 14 = .ok (.if_icmp .le 11, 3) := by decide +kernel
theorem dX9_boat_17 : decode cX9_boat 17 = .ok (.iload_n 2, 1) := by decide +kernel
theorem dX9_boat_18 : decode cX9_boat 18 = .ok (.bipush 10, 2) := by decide +kernel
theorem dX9_boat_20 : decode cX9_boat 20 = .ok (.if_icmp .ge 5, 3) := by decide +kernel
theorem dX9_boat_23 : decode cX9_boat 23 = .ok (.iconst (-1), 1) := by decide +kernel
theorem dX9_boat_24 : decode cX9_boat 24 = .ok (.ireturn, 1) := by decide +kernel
theorem dX9_boat_25 : decode cX9_boat 25 = .ok (.aload_n 0, 1) := by decide +kernel
theorem dX9_boat_26 : decode cX9_boat 26 = .ok (.getfield 9, 3) := by decide +kernel
theorem dX9_boat_29 : decode cX9_boat 29 = .ok (.bipush 54, 2) := by decide +kernel
theorem dX9_boat_31 : decode cX9_boat 31 = .ok (.iload_n 1, 1) := by decide +kernel
theorem dX9_boat_32 : decode cX9_boat 32 = .ok (.iadd, 1) := by decide +kernel
theorem dX9_boat_33 : decode cX9_boat 33 = .ok (.iaload, 1) := by decide +kernel
theorem dX9_boat_34 : decode cX9_boat 34 = .ok (.istore_n 3, 1) := by decide +kernel
theorem dX9_boat_35 : decode cX9_boat 35 = .ok (.iload_n 2, 1) := by decide +kernel
theorem dX9_boat_36 : decode cX9_boat 36 = .ok (.iconst 4, 1) := by decide +kernel
theorem dX9_boat_37 : decode cX9_boat 37 = .ok (.if_icmp .ge 18, 3) := by decide +kernel
theorem dX9_boat_40 : decode cX9_boat 40 = .ok (.aload_n 0, 1) := by decide +kernel
theorem dX9_boat_41 : decode cX9_boat 41 = .ok (.getfield 9, 3) := by decide +kernel
theorem dX9_boat_44 : decode cX9_boat 44 = .ok (.bipush 66, 2) := by decide +kernel
theorem dX9_boat_46 : decode cX9_boat 46 = .ok (.bipush 12, 2) := by decide +kernel
theorem dX9_boat_48 : decode cX9_boat 48 = .ok (.iload_n 2, 1) := by decide +kernel
theorem dX9_boat_49 : decode cX9_boat 49 = .ok (.imul, 1) := by decide +kernel
theorem dX9_boat_50 : decode cX9_boat 50 = .ok (.iadd, 1) := by decide +kernel
theorem dX9_boat_51 : decode cX9_boat 51 = .ok (.iload_n 1, 1) := by decide +kernel
theorem dX9_boat_52 : decode cX9_boat 52 = .ok (.iadd, 1) := by decide +kernel
theorem dX9_boat_53 : decode cX9_boat 53 = .ok (.iaload, 1) := by decide +kernel
theorem dX9_boat_54 : decode cX9_boat 54 = .ok (.ireturn, 1) := by decide +kernel
theorem dX9_boat_55 : decode cX9_boat 55 = .ok (.iconst 0, 1) := by decide +kernel
theorem dX9_boat_56 : decode cX9_boat 56 = .ok (.istore 4, 2) := by decide +kernel
theorem dX9_boat_58 : decode cX9_boat 58 = .ok (.iload 4, 2) := by decide +kernel
theorem dX9_boat_60 : decode cX9_boat 60 = .ok (.iconst 4, 1) := by decide +kernel
theorem dX9_boat_61 : decode cX9_boat 61 = .ok (.if_icmp .ge 18, 3) := by decide +kernel
theorem dX9_boat_64 : decode cX9_boat 64 = .ok (.iload_n 3, 1) := by decide +kernel
theorem dX9_boat_65 : decode cX9_boat 65 = .ok (.iload 4, 2) := by decide +kernel
theorem dX9_boat_67 : decode cX9_boat 67 = .ok (.invokestatic 115, 3) := by decide +kernel
theorem dX9_boat_70 : decode cX9_boat 70 = .ok (.ifCond .le 9, 3) := by decide +kernel
theorem dX9_boat_73 : decode cX9_boat 73 = .ok (.iinc 4 1, 3) := by decide +kernel
theorem dX9_boat_76 : decode cX9_boat 76 = .ok (.goto (-18), 3) := by decide +kernel
theorem dX9_boat_79 : decode cX9_boat 79 = .ok (.iload_n 2, 1) := by decide +kernel
theorem dX9_boat_80 : decode cX9_boat 80 = .ok (.iconst 4, 1) := by decide +kernel
theorem dX9_boat_81 : decode cX9_boat 81 = .ok (.if_icmp .ne 6, 3) := by decide +kernel
theorem dX9_boat_84 : decode cX9_boat 84 = .ok (.iload 4, 2) := by decide +kernel
theorem dX9_boat_86 : decode cX9_boat 86 = .ok (.ireturn, 1) := by decide +kernel
theorem dX9_boat_87 : decode cX9_boat 87 = .ok (.iload_n 2, 1) := by decide +kernel
theorem dX9_boat_88 : decode cX9_boat 88 = .ok (.bipush 10, 2) := by decide +kernel
theorem dX9_boat_90 : decode cX9_boat 90 = .ok (.isub, 1) := by decide +kernel
theorem dX9_boat_91 : decode cX9_boat 91 = .ok (.iload 4, 2) := by decide +kernel
theorem dX9_boat_93 : decode cX9_boat 93 = .ok (.if_icmp .ge 19, 3) := by decide +kernel
theorem dX9_boat_96 : decode cX9_boat 96 = .ok (.bipush 97, 2) := by decide +kernel
theorem dX9_boat_98 : decode cX9_boat 98 = .ok (.iload_n 3, 1) := by decide +kernel
theorem dX9_boat_99 : decode cX9_boat 99 = .ok (.iload_n 2, 1) := by decide +kernel
theorem dX9_boat_100 : decode cX9_boat 100 = .ok (.bipush 10, 2) := by decide +kernel
theorem dX9_boat_102 : decode cX9_boat 102 = .ok (.isub, 1) := by decide +kernel
theorem dX9_boat_103 : decode cX9_boat 103 = .ok (.invokestatic 115, 3) := by decide +kernel
theorem dX9_boat_106 : decode cX9_boat 106 = .ok (.iadd, 1) := by decide +kernel
theorem dX9_boat_107 : decode cX9_boat 107 = .ok (.iconst 1, 1) := by decide +kernel
theorem dX9_boat_108 : decode cX9_boat 108 = .ok (.isub, 1) := by decide +kernel
theorem dX9_boat_109 : decode cX9_boat 109 = .ok (.goto 5, 3) := by decide +kernel
theorem dX9_boat_112 : decode cX9_boat 112 = .ok (.bipush (-2), 2) := by decide +kernel
theorem dX9_boat_114 : decode cX9_boat 114 = .ok (.ireturn, 1) := by decide +kernel
theorem dX9_find_0 : decode cX9_find 0 = .ok (.aload_n 0, 1) := by decide +kernel
theorem dX9_find_1 : decode cX9_find 1 = .ok (.iconst 0, 1) := by decide +kernel
theorem dX9_find_2 : decode cX9_find 2 = .ok (.putfield 72, 3) := by decide +kernel
theorem dX9_find_5 : decode cX9_find 5 = .ok (.aload_n 0, 1) := by decide +kernel
theorem dX9_find_6 : decode cX9_find 6 = .ok (.iconst (-1), 1) := by decide +kernel
theorem dX9_find_7 : decode cX9_find 7 = .ok (.putfield 69, 3) := by decide +kernel
theorem dX9_find_10 : decode cX9_find 10 = .ok (.aload_n 0, 1) := by decide +kernel
theorem dX9_find_11 : decode cX9_find 11 = .ok (.invokevirtual 85, 3) := by decide +kernel
theorem dX9_find_14 : decode cX9_find 14 = .ok (.istore_n 1, 1) := by decide +kernel
theorem dX9_find_15 : decode cX9_find 15 = .ok (.aload_n 0, 1) := by decide +kernel
theorem dX9_find_16 : decode cX9_find 16 = .ok (.getfield 69, 3) := by decide +kernel
theorem dX9_find_19 : decode cX9_find 19 = .ok (.ifCond .ge 18, 3) := by decide +kernel
theorem dX9_find_22 : decode cX9_find 22 = .ok (.aload_n 0, 1) := by decide +kernel
theorem dX9_find_23 : decode cX9_find 23 = .ok (.getfield 72, 3) := by decide +kernel
theorem dX9_find_26 : decode cX9_find 26 = .ok (.aload_n 0, 1) := by decide +kernel
theorem dX9_find_27 : decode cX9_find 27 = .ok (.getfield 65, 3) := by decide +kernel
theorem dX9_find_30 : decode cX9_find 30 = .ok (.if_icmp .ne 7, 3) := by decide +kernel
theorem dX9_find_33 : decode cX9_find 33 = .ok (.iconst 1, 1) := by decide +kernel
theorem dX9_find_34 : decode cX9_find 34 = .ok (.goto 4, 3) := by decide +kernel
theorem dX9_find_37 : decode cX9_find 37 = .ok (.iconst 0, 1) := by decide +kernel
theorem dX9_find_38 : decode cX9_find 38 = .ok (.istore_n 2, 1) := by decide +kernel
theorem dX9_find_39 : decode cX9_find 39 = .ok (.aload_n 0, 1) := by decide +kernel
theorem dX9_find_40 : decode cX9_find 40 = .ok (.iconst 0, 1) := by decide +kernel
theorem dX9_find_41 : decode cX9_find 41 = .ok (.putfield 65, 3) := by decide +kernel
theorem dX9_find_44 : decode cX9_find 44 = .ok (.aload_n 0, 1) := by decide +kernel
theorem dX9_find_45 : decode cX9_find 45 = .ok (.iload_n 1, 1) := by decide +kernel
theorem dX9_find_46 : decode cX9_find 46 = .ok (.invokevirtual 92, 3) := by decide +kernel
theorem dX9_find_49 : decode cX9_find 49 = .ok (.istore_n 3, 1) := by decide +kernel
theorem dX9_find_50 : decode cX9_find 50 = .ok (.iload_n 2, 1) := by decide +kernel
theorem dX9_find_51 : decode cX9_find 51 = .ok (.ifCond .eq 16, 3) := by decide +kernel
theorem dX9_find_54 : decode cX9_find 54 = .ok (.aload_n 0, 1) := by decide +kernel
theorem dX9_find_55 : decode cX9_find 55 = .ok (.iload_n 3, 1) := by decide +kernel
theorem dX9_find_56 : decode cX9_find 56 = .ok (.iload_n 1, 1) := by decide +kernel
theorem dX9_find_57 : decode cX9_find 57 = .ok (.invokevirtual 95, 3) := by decide +kernel
theorem dX9_find_60 : decode cX9_find 60 = .ok (.ifCond .eq 7, 3) := by decide +kernel
theorem dX9_find_63 : decode cX9_find 63 = .ok (.iload_n 3, 1) := by decide +kernel
theorem dX9_find_64 : decode cX9_find 64 = .ok (.goto 5, 3) := by decide +kernel
theorem dX9_find_67 : decode cX9_find 67 = .ok (.bipush (-2), 2) := by decide +kernel
theorem dX9_find_69 : decode cX9_find 69 = .ok (.ireturn, 1) := by decide +kernel
theorem dX9_leaves_0 : decode cX9_leaves 0 = .ok (.aload_n 0, 1) := by decide +kernel
theorem dX9_leaves_1 : decode cX9_leaves 1 = .ok (.iload_n 1, 1) := by decide +kernel
theorem dX9_leaves_2 : decode cX9_leaves 2 = .ok (.invokevirtual 112, 3) := by decide +kernel
theorem dX9_leaves_5 : decode cX9_leaves 5 = .ok (.ifCond .ne 5, 3) := by decide +kernel
theorem dX9_leaves_8 : decode cX9_leaves 8 = .ok (.iconst (-1), 1) := by decide +kernel
theorem dX9_leaves_9 : decode cX9_leaves 9 = .ok (.ireturn, 1) := by decide +kernel
theorem dX9_leaves_10 : decode cX9_leaves 10 = .ok (.iload_n 1, 1) := by decide +kernel
theorem dX9_leaves_11 : decode cX9_leaves 11 = .ok (.iconst 1, 1) := by decide +kernel
theorem dX9_leaves_12 : decode cX9_leaves 12 = .ok (.iadd, 1) := by decide +kernel
theorem dX9_leaves_13 : decode cX9_leaves 13 = .ok (.istore_n 2, 1) := by decide +kernel
theorem dX9_leaves_14 : decode cX9_leaves 14 = .ok (.iload_n 2, 1) := by decide +kernel
theorem dX9_leaves_15 : decode cX9_leaves 15 = .ok (.aload_n 0, 1) := by decide +kernel
theorem dX9_leaves_16 : decode cX9_leaves 16 = .ok (.getfield 9, 3) := by decide +kernel
theorem dX9_leaves_19 : decode cX9_leaves 19 = .ok (.bipush 114, 2) := by decide +kernel
theorem dX9_leaves_21 : decode cX9_leaves 21 = .ok (.iaload, 1) := by decide +kernel
theorem dX9_leaves_22 : decode cX9_leaves 22 = .ok (.if_icmp .ge 17, 3) := by decide +kernel
theorem dX9_leaves_25 : decode cX9_leaves 25 = .ok (.aload_n 0, 1) := by decide +kernel
theorem dX9_leaves_26 : decode cX9_leaves 26 = .ok (.iload_n 2, 1) := by decide +kernel
theorem dX9_leaves_27 : decode cX9_leaves 27 = .ok (.iload_n 2, 1) := by decide +kernel
theorem dX9_leaves_28 : decode cX9_leaves 28 = .ok (.iconst 1, 1) := by decide +kernel
theorem dX9_leaves_29 : decode cX9_leaves 29 = .ok (.isub, 1) := by decide +kernel
theorem dX9_leaves_30 : decode cX9_leaves 30 = .ok (.invokevirtual 98, 3) := by decide +kernel
theorem dX9_leaves_33 : decode cX9_leaves 33 = .ok (.iinc 2 1, 3) := by decide +kernel
theorem dX9_leaves_36 : decode cX9_leaves 36 = .ok (.goto (-22), 3) := by decide +kernel
theorem dX9_leaves_39 : decode cX9_leaves 39 = .ok (.aload_n 0, 1) := by decide +kernel
theorem dX9_leaves_40 : decode cX9_leaves 40 = .ok (.getfield 9, 3) := by decide +kernel
theorem dX9_leaves_43 : decode cX9_leaves 43 = .ok (.bipush 114, 2) := by decide +kernel
theorem dX9_leaves_45 : decode cX9_leaves 45 = .ok (.dup2, 1) := by decide +kernel
theorem dX9_leaves_46 : decode cX9_leaves 46 = .ok (.iaload, 1) := by decide +kernel
theorem dX9_leaves_47 : decode cX9_leaves 47 = .ok (.iconst 1, 1) := by decide +kernel
theorem dX9_leaves_48 : decode cX9_leaves 48 = .ok (.isub, 1) := by decide +kernel
theorem dX9_leaves_49 : decode cX9_leaves 49 = .ok (.dup_x2, 1) := by decide +kernel
theorem dX9_leaves_50 : decode cX9_leaves 50 = .ok (.iastore, 1) := by decide +kernel
theorem dX9_leaves_51 : decode cX9_leaves 51 = .ok (.ireturn, 1) := by decide +kernel
theorem dX9_about_0 : decode cX9_about 0 = .ok (.aload_n 0, 1) := by decide +kernel
theorem dX9_about_1 : decode cX9_about 1 = .ok (.iload_n 1, 1) := by decide +kernel
theorem dX9_about_2 : decode cX9_about 2 = .ok (.invokevirtual 112, 3) := by decide +kernel
theorem dX9_about_5 : decode cX9_about 5 = .ok (.ifCond .ne 5, 3) := by decide +kernel
theorem dX9_about_8 : decode cX9_about 8 = .ok (.iconst (-1), 1) := by decide +kernel
theorem dX9_about_9 : decode cX9_about 9 = .ok (.ireturn, 1) := by decide +kernel
theorem dX9_about_10 : decode cX9_about 10 = .ok (.aload_n 0, 1) := by decide +kernel
theorem dX9_about_11 : decode cX9_about 11 = .ok (.getfield 9, 3) := by decide +kernel
theorem dX9_about_14 : decode cX9_about 14 = .ok (.bipush 90, 2) := by decide +kernel
theorem dX9_about_16 : decode cX9_about 16 = .ok (.iload_n 1, 1) := by decide +kernel
theorem dX9_about_17 : decode cX9_about 17 = .ok (.iadd, 1) := by decide +kernel
theorem dX9_about_18 : decode cX9_about 18 = .ok (.iconst 1, 1) := by decide +kernel
theorem dX9_about_19 : decode cX9_about 19 = .ok (.aload_n 0, 1) := by decide +kernel
theorem dX9_about_20 : decode cX9_about 20 = .ok (.getfield 9, 3) := by decide +kernel
theorem dX9_about_23 : decode cX9_about 23 = .ok (.bipush 90, 2) := by decide +kernel
theorem dX9_about_25 : decode cX9_about 25 = .ok (.iload_n 1, 1) := by decide +kernel
theorem dX9_about_26 : decode cX9_about 26 = .ok (.iadd, 1) := by decide +kernel
theorem dX9_about_27 : decode cX9_about 27 = .ok (.iaload, 1) := by decide +kernel
theorem dX9_about_28 : decode cX9_about 28 = .ok (.isub, 1) := by decide +kernel
theorem dX9_about_29 : decode cX9_about 29 = .ok (.iastore, 1) := by decide +kernel
theorem dX9_about_30 : decode cX9_about 30 = .ok (.aload_n 0, 1) := by decide +kernel
theorem dX9_about_31 : decode cX9_about 31 = .ok (.getfield 9, 3) := by decide +kernel
theorem dX9_about_34 : decode cX9_about 34 = .ok (.bipush 90, 2) := by decide +kernel
theorem dX9_about_36 : decode cX9_about 36 = .ok (.iload_n 1, 1) := by decide +kernel
theorem dX9_about_37 : decode cX9_about 37 = .ok (.iadd, 1) := by decide +kernel
theorem dX9_about_38 : decode cX9_about 38 = .ok (.iaload, 1) := by decide +kernel
theorem dX9_about_39 : decode cX9_about 39 = .ok (.ireturn, 1) := by decide +kernel
theorem dX9_flows_0 : decode cX9_flows 0 = .ok (.iload_n 1, 1) := by decide +kernel
theorem dX9_flows_1 : decode cX9_flows 1 = .ok (.iconst 1, 1) := by decide +kernel
theorem dX9_flows_2 : decode cX9_flows 2 = .ok (.iadd, 1) := by decide +kernel
theorem dX9_flows_3 : decode cX9_flows 3 = .ok (.istore 5, 2) := by decide +kernel
theorem dX9_flows_5 : decode cX9_flows 5 = .ok (.iload 5, 2) := by decide +kernel
theorem dX9_flows_7 : decode cX9_flows 7 = .ok (.iload_n 1, 1) := by decide +kernel
theorem dX9_flows_8 : decode cX9_flows 8 = .ok (.if_icmp .lt 104, 3) := by decide +kernel
theorem dX9_flows_11 : decode cX9_flows 11 = .ok (.aload_n 0, 1) := by decide +kernel
theorem dX9_flows_12 : decode cX9_flows 12 = .ok (.getfield 9, 3) := by decide +kernel
theorem dX9_flows_15 : decode cX9_flows 15 = .ok (.bipush 24, 2) := by decide +kernel
theorem dX9_flows_17 : decode cX9_flows 17 = .ok (.iload 5, 2) := by decide +kernel
theorem dX9_flows_19 : decode cX9_flows 19 = .ok (.iadd, 1) := by decide +kernel
theorem dX9_flows_20 : decode cX9_flows 20 = .ok (.iaload, 1) := by decide +kernel
theorem dX9_flows_21 : decode cX9_flows 21 = .ok (.iload 5, 2) := by decide +kernel
theorem dX9_flows_23 : decode cX9_flows 23 = .ok (.iload_n 1, 1) := by decide +kernel
theorem dX9_flows_24 : decode cX9_flows 24 = .ok (.if_icmp .ne 7, 3) := by decide +kernel
theorem dX9_flows_27 : decode cX9_flows 27 = .ok (.iload_n 3, 1) := by decide +kernel
theorem dX9_flows_28 : decode cX9_flows 28 = .ok (.goto 4, 3) := by decide +kernel
theorem dX9_flows_31 : decode cX9_flows 31 = .ok (.iload_n 2, 1) := by decide +kernel
theorem dX9_flows_32 : decode cX9_flows 32 = .ok (.iadd, 1) := by decide +kernel
theorem dX9_flows_33 : decode cX9_flows 33 = .ok (.istore 6, 2) := by decide +kernel
theorem dX9_flows_35 : decode cX9_flows 35 = .ok (.iload 6, 2) := by decide +kernel
theorem dX9_flows_37 : decode cX9_flows 37 = .ok (.aload_n 0, 1) := by decide +kernel
theorem dX9_flows_38 : decode cX9_flows 38 = .ok (.getfield 9, 3) := by decide +kernel
theorem dX9_flows_41 : decode cX9_flows 41 = .ok (.bipush 31, 2) := by decide +kernel
theorem dX9_flows_43 : decode cX9_flows 43 = .ok (.iload 5, 2) := by decide +kernel
theorem dX9_flows_45 : decode cX9_flows 45 = .ok (.iadd, 1) := by decide +kernel
theorem dX9_flows_46 : decode cX9_flows 46 = .ok (.iaload, 1) := by decide +kernel
theorem dX9_flows_47 : decode cX9_flows 47 = .ok (.if_icmp .lt 21, 3) := by decide +kernel
theorem dX9_flows_50 : decode cX9_flows 50 = .ok (.iload 6, 2) := by decide +kernel
theorem dX9_flows_52 : decode cX9_flows 52 = .ok (.aload_n 0, 1) := by decide +kernel
theorem dX9_flows_53 : decode cX9_flows 53 = .ok (.getfield 9, 3) := by decide +kernel
theorem dX9_flows_56 : decode cX9_flows 56 = .ok (.bipush 38, 2) := by decide +kernel
theorem dX9_flows_58 : decode cX9_flows 58 = .ok (.iload 5, 2) := by decide +kernel
theorem dX9_flows_60 : decode cX9_flows 60 = .ok (.iadd, 1) := by decide +kernel
theorem dX9_flows_61 : decode cX9_flows 61 = .ok (.iaload, 1) := by decide +kernel
theorem dX9_flows_62 : decode cX9_flows 62 = .ok (.if_icmp .gt 6, 3) := by decide +kernel
theorem dX9_flows_65 : decode cX9_flows 65 = .ok (.goto 41, 3) := by decide +kernel
theorem dX9_flows_68 : decode cX9_flows 68 = .ok (.aload_n 0, 1) := by decide +kernel
theorem dX9_flows_69 : decode cX9_flows 69 = .ok (.iload 4, 2) := by decide +kernel
theorem dX9_flows_71 : decode cX9_flows 71 = .ok (.putfield 118, 3) := by decide +kernel
theorem dX9_flows_74 : decode cX9_flows 74 = .ok (.aload_n 0, 1) := by decide +kernel
theorem dX9_flows_75 : decode cX9_flows 75 = .ok (.iload 5, 2) := by decide +kernel
theorem dX9_flows_77 : decode cX9_flows 77 = .ok (.putfield 121, 3) := by decide +kernel
theorem dX9_flows_80 : decode cX9_flows 80 = .ok (.aload_n 0, 1) := by decide +kernel
theorem dX9_flows_81 : decode cX9_flows 81 = .ok (.iload 6, 2) := by decide +kernel
theorem dX9_flows_83 : decode cX9_flows 83 = .ok (.aload_n 0, 1) := by decide +kernel
theorem dX9_flows_84 : decode cX9_flows 84 = .ok (.getfield 9, 3) := by decide +kernel
theorem dX9_flows_87 : decode cX9_flows 87 = .ok (.bipush 31, 2) := by decide +kernel
theorem dX9_flows_89 : decode cX9_flows 89 = .ok (.iload 5, 2) := by decide +kernel
theorem dX9_flows_91 : decode cX9_flows 91 = .ok (.iadd, 1) := by decide +kernel
theorem dX9_flows_92 : decode cX9_flows 92 = .ok (.iaload, 1) := by decide +kernel
theorem dX9_flows_93 : decode cX9_flows 93 = .ok (.if_icmp .ge 7, 3) := by decide +kernel
theorem dX9_flows_96 : decode cX9_flows 96 = .ok (.iconst 1, 1) := by decide +kernel
theorem dX9_flows_97 : decode cX9_flows 97 = .ok (.goto 4, 3) := by decide +kernel
theorem dX9_flows_100 : decode cX9_flows 100 = .ok (.iconst 2, 1) := by decide +kernel
theorem dX9_flows_101 : decode cX9_flows 101 = .ok (.putfield 124, 3) := by decide +kernel
theorem dX9_flows_104 : decode cX9_flows 104 = .ok (.iconst 0, 1) := by decide +kernel
theorem dX9_flows_105 : decode cX9_flows 105 = .ok (.ireturn, 1) := by decide +kernel
theorem dX9_flows_106 : decode cX9_flows 106 = .ok (.iinc 5 (-1), 3) := by decide +kernel
theorem dX9_flows_109 : decode cX9_flows 109 = .ok (.goto (-104), 3) := by decide +kernel
theorem dX9_flows_112 : decode cX9_flows 112 = .ok (.aload_n 0, 1) := by decide +kernel
theorem dX9_flows_113 : decode cX9_flows 113 = .ok (.getfield 9, 3) := by decide +kernel
theorem dX9_flows_116 : decode cX9_flows 116 = .ok (.bipush 24, 2) := by decide +kernel
theorem dX9_flows_118 : decode cX9_flows 118 = .ok (.iload_n 1, 1) := by decide +kernel
theorem dX9_flows_119 : decode cX9_flows 119 = .ok (.iadd, 1) := by decide +kernel
theorem dX9_flows_120 : decode cX9_flows 120 = .ok (.iconst 1, 1) := by decide +kernel
theorem dX9_flows_121 : decode cX9_flows 121 = .ok (.iadd, 1) := by decide +kernel
theorem dX9_flows_122 : decode cX9_flows 122 = .ok (.dup2, 1) := by decide +kernel
theorem dX9_flows_123 : decode cX9_flows 123 = .ok (.iaload, 1) := by decide +kernel
theorem dX9_flows_124 : decode cX9_flows 124 = .ok (.iload_n 2, 1) := by decide +kernel
theorem dX9_flows_125 : decode cX9_flows 125 = .ok (.iadd, 1) := by decide +kernel
theorem dX9_flows_126 : decode cX9_flows 126 = .ok (.iastore, 1) := by decide +kernel
theorem dX9_flows_127 : decode cX9_flows 127 = .ok (.aload_n 0, 1) := by decide +kernel
theorem dX9_flows_128 : decode cX9_flows 128 = .ok (.getfield 9, 3) := by decide +kernel
theorem dX9_flows_131 : decode cX9_flows 131 = .ok (.bipush 24, 2) := by decide +kernel
theorem dX9_flows_133 : decode cX9_flows 133 = .ok (.iload_n 1, 1) := by decide +kernel
theorem dX9_flows_134 : decode cX9_flows 134 = .ok (.iadd, 1) := by decide +kernel
theorem dX9_flows_135 : decode cX9_flows 135 = .ok (.dup2, 1) := by decide +kernel
theorem dX9_flows_136 : decode cX9_flows 136 = .ok (.iaload, 1) := by decide +kernel
theorem dX9_flows_137 : decode cX9_flows 137 = .ok (.iload_n 3, 1) := by decide +kernel
theorem dX9_flows_138 : decode cX9_flows 138 = .ok (.iadd, 1) := by decide +kernel
theorem dX9_flows_139 : decode cX9_flows 139 = .ok (.iastore, 1) := by decide +kernel
theorem dX9_flows_140 : decode cX9_flows 140 = .ok (.iconst 1, 1) := by decide +kernel
theorem dX9_flows_141 : decode cX9_flows 141 = .ok (.ireturn, 1) := by decide +kernel
theorem dX9_fills_0 : decode cX9_fills 0 = .ok (.aload_n 0, 1) := by decide +kernel
theorem dX9_fills_1 : decode cX9_fills 1 = .ok (.iload_n 1, 1) := by decide +kernel
theorem dX9_fills_2 : decode cX9_fills 2 = .ok (.aload_n 0, 1) := by decide +kernel
theorem dX9_fills_3 : decode cX9_fills 3 = .ok (.getfield 9, 3) := by decide +kernel
theorem dX9_fills_6 : decode cX9_fills 6 = .ok (.bipush 12, 2) := by decide +kernel
theorem dX9_fills_8 : decode cX9_fills 8 = .ok (.iload_n 1, 1) := by decide +kernel
theorem dX9_fills_9 : decode cX9_fills 9 = .ok (.iadd, 1) := by decide +kernel
theorem dX9_fills_10 : decode cX9_fills 10 = .ok (.iaload, 1) := by decide +kernel
theorem dX9_fills_11 : decode cX9_fills 11 = .ok (.aload_n 0, 1) := by decide +kernel
theorem dX9_fills_12 : decode cX9_fills 12 = .ok (.getfield 9, 3) := by decide +kernel
theorem dX9_fills_15 : decode cX9_fills 15 = .ok (.iconst 0, 1) := by decide +kernel
theorem dX9_fills_16 : decode cX9_fills 16 = .ok (.iload_n 1, 1) := by decide +kernel
theorem dX9_fills_17 : decode cX9_fills 17 = .ok (.iadd, 1) := by decide +kernel
theorem dX9_fills_18 : decode cX9_fills 18 = .ok (.iaload, 1) := by decide +kernel
theorem dX9_fills_19 : decode cX9_fills 19 = .ok (.isub, 1) := by decide +kernel
theorem dX9_fills_20 : decode cX9_fills 20 = .ok (.iconst 0, 1) := by decide +kernel
theorem dX9_fills_21 : decode cX9_fills 21 = .ok (.iconst 2, 1) := by decide +kernel
theorem dX9_fills_22 : decode cX9_fills 22 = .ok (.invokevirtual 127, 3) := by decide +kernel
theorem dX9_fills_25 : decode cX9_fills 25 = .ok (.ifCond .ne 5, 3) := by decide +kernel
theorem dX9_fills_28 : decode cX9_fills 28 = .ok (.iconst 0, 1) := by decide +kernel
theorem dX9_fills_29 : decode cX9_fills 29 = .ok (.ireturn, 1) := by decide +kernel
theorem dX9_fills_30 : decode cX9_fills 30 = .ok (.aload_n 0, 1) := by decide +kernel
theorem dX9_fills_31 : decode cX9_fills 31 = .ok (.getfield 9, 3) := by decide +kernel
theorem dX9_fills_34 : decode cX9_fills 34 = .ok (.bipush 12, 2) := by decide +kernel
theorem dX9_fills_36 : decode cX9_fills 36 = .ok (.iload_n 1, 1) := by decide +kernel
theorem dX9_fills_37 : decode cX9_fills 37 = .ok (.iadd, 1) := by decide +kernel
theorem dX9_fills_38 : decode cX9_fills 38 = .ok (.iconst 0, 1) := by decide +kernel
theorem dX9_fills_39 : decode cX9_fills 39 = .ok (.iastore, 1) := by decide +kernel
theorem dX9_fills_40 : decode cX9_fills 40 = .ok (.aload_n 0, 1) := by decide +kernel
theorem dX9_fills_41 : decode cX9_fills 41 = .ok (.getfield 9, 3) := by decide +kernel
theorem dX9_fills_44 : decode cX9_fills 44 = .ok (.bipush 18, 2) := by decide +kernel
theorem dX9_fills_46 : decode cX9_fills 46 = .ok (.iload_n 1, 1) := by decide +kernel
theorem dX9_fills_47 : decode cX9_fills 47 = .ok (.iadd, 1) := by decide +kernel
theorem dX9_fills_48 : decode cX9_fills 48 = .ok (.iconst 1, 1) := by decide +kernel
theorem dX9_fills_49 : decode cX9_fills 49 = .ok (.iastore, 1) := by decide +kernel
theorem dX9_fills_50 : decode cX9_fills 50 = .ok (.iconst 1, 1) := by decide +kernel
theorem dX9_fills_51 : decode cX9_fills 51 = .ok (.ireturn, 1) := by decide +kernel
theorem dX9_empties_0 : decode cX9_empties 0 = .ok (.aload_n 0, 1) := by decide +kernel
theorem dX9_empties_1 : decode cX9_empties 1 = .ok (.iload_n 1, 1) := by decide +kernel
theorem dX9_empties_2 : decode cX9_empties 2 = .ok (.iconst 0, 1) := by decide +kernel
theorem dX9_empties_3 : decode cX9_empties 3 = .ok (.aload_n 0, 1) := by decide +kernel
theorem dX9_empties_4 : decode cX9_empties 4 = .ok (.getfield 9, 3) := by decide +kernel
theorem dX9_empties_7 : decode cX9_empties 7 = .ok (.iconst 0, 1) := by decide +kernel
theorem dX9_empties_8 : decode cX9_empties 8 = .ok (.iload_n 1, 1) := by decide +kernel
theorem dX9_empties_9 : decode cX9_empties 9 = .ok (.iadd, 1) := by decide +kernel
theorem dX9_empties_10 : decode cX9_empties 10 = .ok (.iaload, 1) := by decide +kernel
theorem dX9_empties_11 : decode cX9_empties 11 = .ok (.aload_n 0, 1) := by decide +kernel
theorem dX9_empties_12 : decode cX9_empties 12 = .ok (.iload_n 1, 1) := by decide +kernel
theorem dX9_empties_13 : decode cX9_empties 13 = .ok (.invokevirtual 58, 3) := by decide +kernel
theorem dX9_empties_16 : decode cX9_empties 16 = .ok (.isub, 1) := by decide +kernel
theorem dX9_empties_17 : decode cX9_empties 17 = .ok (.iconst 1, 1) := by decide +kernel
theorem dX9_empties_18 : decode cX9_empties 18 = .ok (.invokevirtual 127, 3) := by decide +kernel
theorem dX9_empties_21 : decode cX9_empties 21 = .ok (.ifCond .ne 5, 3) := by decide +kernel
theorem dX9_empties_24 : decode cX9_empties 24 = .ok (.iconst 0, 1) := by decide +kernel
theorem dX9_empties_25 : decode cX9_empties 25 = .ok (.ireturn, 1) := by decide +kernel
theorem dX9_empties_26 : decode cX9_empties 26 = .ok (.aload_n 0, 1) := by decide +kernel
theorem dX9_empties_27 : decode cX9_empties 27 = .ok (.getfield 9, 3) := by decide +kernel
theorem dX9_empties_30 : decode cX9_empties 30 = .ok (.bipush 12, 2) := by decide +kernel
theorem dX9_empties_32 : decode cX9_empties 32 = .ok (.iload_n 1, 1) := by decide +kernel
theorem dX9_empties_33 : decode cX9_empties 33 = .ok (.iadd, 1) := by decide +kernel
theorem dX9_empties_34 : decode cX9_empties 34 = .ok (.aload_n 0, 1) := by decide +kernel
theorem dX9_empties_35 : decode cX9_empties 35 = .ok (.iload_n 1, 1) := by decide +kernel
theorem dX9_empties_36 : decode cX9_empties 36 = .ok (.invokevirtual 58, 3) := by decide +kernel
theorem dX9_empties_39 : decode cX9_empties 39 = .ok (.iastore, 1) := by decide +kernel
theorem dX9_empties_40 : decode cX9_empties 40 = .ok (.aload_n 0, 1) := by decide +kernel
theorem dX9_empties_41 : decode cX9_empties 41 = .ok (.getfield 9, 3) := by decide +kernel
theorem dX9_empties_44 : decode cX9_empties 44 = .ok (.bipush 18, 2) := by decide +kernel
theorem dX9_empties_46 : decode cX9_empties 46 = .ok (.iload_n 1, 1) := by decide +kernel
theorem dX9_empties_47 : decode cX9_empties 47 = .ok (.iadd, 1) := by decide +kernel
theorem dX9_empties_48 : decode cX9_empties 48 = .ok (.iconst 0, 1) := by decide +kernel
theorem dX9_empties_49 : decode cX9_empties 49 = .ok (.iastore, 1) := by decide +kernel
theorem dX9_empties_50 : decode cX9_empties 50 = .ok (.iconst 1, 1) := by decide +kernel
theorem dX9_empties_51 : decode cX9_empties 51 = .ok (.ireturn, 1) := by decide +kernel
theorem dX9_goes_0 : decode cX9_goes 0 = .ok (.aload_n 0, 1) := by decide +kernel
theorem dX9_goes_1 : decode cX9_goes 1 = .ok (.getfield 9, 3) := by decide +kernel
theorem dX9_goes_4 : decode cX9_goes 4 = .ok (.bipush 24, 2) := by decide +kernel
theorem dX9_goes_6 : decode cX9_goes 6 = .ok (.iload_n 1, 1) := by decide +kernel
theorem dX9_goes_7 : decode cX9_goes 7 = .ok (.iadd, 1) := by decide +kernel
theorem dX9_goes_8 : decode cX9_goes 8 = .ok (.iaload, 1) := by decide +kernel
theorem dX9_goes_9 : decode cX9_goes 9 = .ok (.istore 4, 2) := by decide +kernel
theorem dX9_goes_11 : decode cX9_goes 11 = .ok (.aload_n 0, 1) := by decide +kernel
theorem dX9_goes_12 : decode cX9_goes 12 = .ok (.getfield 9, 3) := by decide +kernel
theorem dX9_goes_15 : decode cX9_goes 15 = .ok (.bipush 24, 2) := by decide +kernel
theorem dX9_goes_17 : decode cX9_goes 17 = .ok (.iload_n 1, 1) := by decide +kernel
theorem dX9_goes_18 : decode cX9_goes 18 = .ok (.iadd, 1) := by decide +kernel
theorem dX9_goes_19 : decode cX9_goes 19 = .ok (.iconst 1, 1) := by decide +kernel
theorem dX9_goes_20 : decode cX9_goes 20 = .ok (.iadd, 1) := by decide +kernel
theorem dX9_goes_21 : decode cX9_goes 21 = .ok (.iaload, 1) := by decide +kernel
theorem dX9_goes_22 : decode cX9_goes 22 = .ok (.istore 5, 2) := by decide +kernel
theorem dX9_goes_24 : decode cX9_goes 24 = .ok (.aload_n 0, 1) := by decide +kernel
theorem dX9_goes_25 : decode cX9_goes 25 = .ok (.getfield 9, 3) := by decide +kernel
theorem dX9_goes_28 : decode cX9_goes 28 = .ok (.bipush 12, 2) := by decide +kernel
theorem dX9_goes_30 : decode cX9_goes 30 = .ok (.iload_n 1, 1) := by decide +kernel
theorem dX9_goes_31 : decode cX9_goes 31 = .ok (.iadd, 1) := by decide +kernel
theorem dX9_goes_32 : decode cX9_goes 32 = .ok (.iaload, 1) := by decide +kernel
theorem dX9_goes_33 : decode cX9_goes 33 = .ok (.istore 6, 2) := by decide +kernel
theorem dX9_goes_35 : decode cX9_goes 35 = .ok (.aload_n 0, 1) := by decide +kernel
theorem dX9_goes_36 : decode cX9_goes 36 = .ok (.getfield 9, 3) := by decide +kernel
theorem dX9_goes_39 : decode cX9_goes 39 = .ok (.bipush 18, 2) := by decide +kernel
theorem dX9_goes_41 : decode cX9_goes 41 = .ok (.iload_n 1, 1) := by decide +kernel
theorem dX9_goes_42 : decode cX9_goes 42 = .ok (.iadd, 1) := by decide +kernel
theorem dX9_goes_43 : decode cX9_goes 43 = .ok (.iaload, 1) := by decide +kernel
theorem dX9_goes_44 : decode cX9_goes 44 = .ok (.istore 7, 2) := by decide +kernel
theorem dX9_goes_46 : decode cX9_goes 46 = .ok (.iload_n 2, 1) := by decide +kernel
theorem dX9_goes_47 : decode cX9_goes 47 = .ok (.ifCond .eq 46, 3) := by decide +kernel
theorem dX9_goes_50 : decode cX9_goes 50 = .ok (.iload 7, 2) := by decide +kernel
theorem dX9_goes_52 : decode cX9_goes 52 = .ok (.ifCond .eq 11, 3) := by decide +kernel
theorem dX9_goes_55 : decode cX9_goes 55 = .ok (.aload_n 0, 1) := by decide +kernel
theorem dX9_goes_56 : decode cX9_goes 56 = .ok (.iload_n 1, 1) := by decide +kernel
theorem dX9_goes_57 : decode cX9_goes 57 = .ok (.invokevirtual 131, 3) := by decide +kernel
theorem dX9_goes_60 : decode cX9_goes 60 = .ok (.ifCond .eq 27, 3) := by decide +kernel
theorem dX9_goes_63 : decode cX9_goes 63 = .ok (.aload_n 0, 1) := by decide +kernel
theorem dX9_goes_64 : decode cX9_goes 64 = .ok (.iload_n 1, 1) := by decide +kernel
theorem dX9_goes_65 : decode cX9_goes 65 = .ok (.invokevirtual 134, 3) := by decide +kernel
theorem dX9_goes_68 : decode cX9_goes 68 = .ok (.ifCond .eq 19, 3) := by decide +kernel
theorem dX9_goes_71 : decode cX9_goes 71 = .ok (.aload_n 0, 1) := by decide +kernel
theorem dX9_goes_72 : decode cX9_goes 72 = .ok (.iload_n 1, 1) := by decide +kernel
theorem dX9_goes_73 : decode cX9_goes 73 = .ok (.iload_n 3, 1) := by decide +kernel
theorem dX9_goes_74 : decode cX9_goes 74 = .ok (.ineg, 1) := by decide +kernel
theorem dX9_goes_75 : decode cX9_goes 75 = .ok (.iload_n 3, 1) := by decide +kernel
theorem dX9_goes_76 : decode cX9_goes 76 = .ok (.iconst 3, 1) := by decide +kernel
theorem dX9_goes_77 : decode cX9_goes 77 = .ok (.invokevirtual 127, 3) := by decide +kernel
theorem dX9_goes_80 : decode cX9_goes 80 = .ok (.ifCond .eq 7, 3) := by decide +kernel
theorem dX9_goes_83 : decode cX9_goes 83 = .ok (.iconst 1, 1) := by decide +kernel
theorem dX9_goes_84 : decode cX9_goes 84 = .ok (.goto 4, 3) := by decide +kernel
theorem dX9_goes_87 : decode cX9_goes 87 = .ok (.iconst 0, 1) := by decide +kernel
theorem dX9_goes_88 : decode cX9_goes 88 = .ok (.istore 8, 2) := by decide +kernel
theorem dX9_goes_90 : decode cX9_goes 90 = .ok (.goto 44, 3) := by decide +kernel
theorem dX9_goes_93 : decode cX9_goes 93 = .ok (.iload 7, 2) := by decide +kernel
theorem dX9_goes_95 : decode cX9_goes 95 = .ok (.iconst 1, 1) := by decide +kernel
theorem dX9_goes_96 : decode cX9_goes 96 = .ok (.if_icmp .eq 11, 3) := by decide +kernel
theorem dX9_goes_99 : decode cX9_goes 99 = .ok (.aload_n 0, 1) := by decide +kernel
theorem dX9_goes_100 : decode cX9_goes 100 = .ok (.iload_n 1, 1) := by decide +kernel
theorem dX9_goes_101 : decode cX9_goes 101 = .ok (.invokevirtual 134, 3) := by decide +kernel
theorem dX9_goes_104 : decode cX9_goes 104 = .ok (.ifCond .eq 27, 3) := by decide +kernel
theorem dX9_goes_107 : decode cX9_goes 107 = .ok (.aload_n 0, 1) := by decide +kernel
theorem dX9_goes_108 : decode cX9_goes 108 = .ok (.iload_n 1, 1) := by decide +kernel
theorem dX9_goes_109 : decode cX9_goes 109 = .ok (.invokevirtual 131, 3) := by decide +kernel
theorem dX9_goes_112 : decode cX9_goes 112 = .ok (.ifCond .eq 19, 3) := by decide +kernel
theorem dX9_goes_115 : decode cX9_goes 115 = .ok (.aload_n 0, 1) := by decide +kernel
theorem dX9_goes_116 : decode cX9_goes 116 = .ok (.iload_n 1, 1) := by decide +kernel
theorem dX9_goes_117 : decode cX9_goes 117 = .ok (.iload_n 3, 1) := by decide +kernel
theorem dX9_goes_118 : decode cX9_goes 118 = .ok (.iload_n 3, 1) := by decide +kernel
theorem dX9_goes_119 : decode cX9_goes 119 = .ok (.ineg, 1) := by decide +kernel
theorem dX9_goes_120 : decode cX9_goes 120 = .ok (.iconst 3, 1) := by decide +kernel
theorem dX9_goes_121 : decode cX9_goes 121 = .ok (.invokevirtual 127, 3) := by decide +kernel
theorem dX9_goes_124 : decode cX9_goes 124 = .ok (.ifCond .eq 7, 3) := by decide +kernel
theorem dX9_goes_127 : decode cX9_goes 127 = .ok (.iconst 1, 1) := by decide +kernel
theorem dX9_goes_128 : decode cX9_goes 128 = .ok (.goto 4, 3) := by decide +kernel
theorem dX9_goes_131 : decode cX9_goes 131 = .ok (.iconst 0, 1) := by decide +kernel
theorem dX9_goes_132 : decode cX9_goes 132 = .ok (.istore 8, 2) := by decide +kernel
theorem dX9_goes_134 : decode cX9_goes 134 = .ok (.aload_n 0, 1) := by decide +kernel
theorem dX9_goes_135 : decode cX9_goes 135 = .ok (.iload 5, 2) := by decide +kernel
theorem dX9_goes_137 : decode cX9_goes 137 = .ok (.aload_n 0, 1) := by decide +kernel
theorem dX9_goes_138 : decode cX9_goes 138 = .ok (.getfield 9, 3) := by decide +kernel
theorem dX9_goes_141 : decode cX9_goes 141 = .ok (.bipush 24, 2) := by decide +kernel
theorem dX9_goes_143 : decode cX9_goes 143 = .ok (.iload_n 1, 1) := by decide +kernel
theorem dX9_goes_144 : decode cX9_goes 144 = .ok (.iadd, 1) := by decide +kernel
theorem dX9_goes_145 : decode cX9_goes 145 = .ok (.iconst 1, 1) := by decide +kernel
theorem dX9_goes_146 : decode cX9_goes 146 = .ok (.iadd, 1) := by decide +kernel
theorem dX9_goes_147 : decode cX9_goes 147 = .ok (.iaload, 1) := by decide +kernel
theorem dX9_goes_148 : decode cX9_goes 148 = .ok (.isub, 1) := by decide +kernel
theorem dX9_goes_149 : decode cX9_goes 149 = .ok (.putfield 137, 3) := by decide +kernel
theorem dX9_goes_152 : decode cX9_goes 152 = .ok (.iload 8, 2) := by decide +kernel
theorem dX9_goes_154 : decode cX9_goes 154 = .ok (.ifCond .ne 49, 3) := by decide +kernel
theorem dX9_goes_157 : decode cX9_goes 157 = .ok (.aload_n 0, 1) := by decide +kernel
theorem dX9_goes_158 : decode cX9_goes 158 = .ok (.getfield 9, 3) := by decide +kernel
theorem dX9_goes_161 : decode cX9_goes 161 = .ok (.bipush 24, 2) := by decide +kernel
theorem dX9_goes_163 : decode cX9_goes 163 = .ok (.iload_n 1, 1) := by decide +kernel
theorem dX9_goes_164 : decode cX9_goes 164 = .ok (.iadd, 1) := by decide +kernel
theorem dX9_goes_165 : decode cX9_goes 165 = .ok (.iload 4, 2) := by decide +kernel
theorem dX9_goes_167 : decode cX9_goes 167 = .ok (.iastore, 1) := by decide +kernel
theorem dX9_goes_168 : decode cX9_goes 168 = .ok (.aload_n 0, 1) := by decide +kernel
theorem dX9_goes_169 : decode cX9_goes 169 = .ok (.getfield 9, 3) := by decide +kernel
theorem dX9_goes_172 : decode cX9_goes 172 = .ok (.bipush 24, 2) := by decide +kernel
theorem dX9_goes_174 : decode cX9_goes 174 = .ok (.iload_n 1, 1) := by decide +kernel
theorem dX9_goes_175 : decode cX9_goes 175 = .ok (.iadd, 1) := by decide +kernel
theorem dX9_goes_176 : decode cX9_goes 176 = .ok (.iconst 1, 1) := by decide +kernel
theorem dX9_goes_177 : decode cX9_goes 177 = .ok (.iadd, 1) := by decide +kernel
theorem dX9_goes_178 : decode cX9_goes 178 = .ok (.iload 5, 2) := by decide +kernel
theorem dX9_goes_180 : decode cX9_goes 180 = .ok (.iastore, 1) := by decide +kernel
theorem dX9_goes_181 : decode cX9_goes 181 = .ok (.aload_n 0, 1) := by decide +kernel
theorem dX9_goes_182 : decode cX9_goes 182 = .ok (.getfield 9, 3) := by decide +kernel
theorem dX9_goes_185 : decode cX9_goes 185 = .ok (.bipush 12, 2) := by decide +kernel
theorem dX9_goes_187 : decode cX9_goes 187 = .ok (.iload_n 1, 1) := by decide +kernel
theorem dX9_goes_188 : decode cX9_goes 188 = .ok (.iadd, 1) := by decide +kernel
theorem dX9_goes_189 : decode cX9_goes 189 = .ok (.iload 6, 2) := by decide +kernel
theorem dX9_goes_191 : decode cX9_goes 191 = .ok (.iastore, 1) := by decide +kernel
theorem dX9_goes_192 : decode cX9_goes 192 = .ok (.aload_n 0, 1) := by decide +kernel
theorem dX9_goes_193 : decode cX9_goes 193 = .ok (.getfield 9, 3) := by decide +kernel
theorem dX9_goes_196 : decode cX9_goes 196 = .ok (.bipush 18, 2) := by decide +kernel
theorem dX9_goes_198 : decode cX9_goes 198 = .ok (.iload_n 1, 1) := by decide +kernel
theorem dX9_goes_199 : decode cX9_goes 199 = .ok (.iadd, 1) := by decide +kernel
theorem dX9_goes_200 : decode cX9_goes 200 = .ok (.iload 7, 2) := by decide +kernel
theorem dX9_goes_202 : decode cX9_goes 202 = .ok (.iastore, 1) := by decide +kernel
theorem dX9_goes_203 : decode cX9_goes 203 = .ok (.iload 8, 2) := by decide +kernel
theorem dX9_goes_205 : decode cX9_goes 205 = .ok (.ireturn, 1) := by decide +kernel
theorem dX9_goesTruly_0 : decode cX9_goesTruly 0 = .ok (.aload_n 0, 1) := by decide +kernel
theorem dX9_goesTruly_1 : decode cX9_goesTruly 1 = .ok (.iload_n 1, 1) := by decide +kernel
theorem dX9_goesTruly_2 : decode cX9_goesTruly 2 = .ok (.iload_n 2, 1) := by decide +kernel
theorem dX9_goesTruly_3 : decode cX9_goesTruly 3 = .ok (.iload_n 3, 1) := by decide +kernel
theorem dX9_goesTruly_4 : decode cX9_goesTruly 4 = .ok (.invokevirtual 140, 3) := by decide +kernel
theorem dX9_goesTruly_7 : decode cX9_goesTruly 7 = .ok (.ifCond .eq 24, 3) := by decide +kernel
theorem dX9_goesTruly_10 : decode cX9_goesTruly 10 = .ok (.aload_n 0, 1) := by decide +kernel
theorem dX9_goesTruly_11 : decode cX9_goesTruly 11 = .ok (.getfield 9, 3) := by decide +kernel
theorem dX9_goesTruly_14 : decode cX9_goesTruly 14 = .ok (.bipush 115, 2) := by decide +kernel
theorem dX9_goesTruly_16 : decode cX9_goesTruly 16 = .ok (.aload_n 0, 1) := by decide +kernel
theorem dX9_goesTruly_17 : decode cX9_goesTruly 17 = .ok (.getfield 137, 3) := by decide +kernel
theorem dX9_goesTruly_20 : decode cX9_goesTruly 20 = .ok (.iadd, 1) := by decide +kernel
theorem dX9_goesTruly_21 : decode cX9_goesTruly 21 = .ok (.bipush 9, 2) := by decide +kernel
theorem dX9_goesTruly_23 : decode cX9_goesTruly 23 = .ok (.iadd, 1) := by decide +kernel
theorem dX9_goesTruly_24 : decode cX9_goesTruly 24 = .ok (.dup2, 1) := by decide +kernel
theorem dX9_goesTruly_25 : decode cX9_goesTruly 25 = .ok (.iaload, 1) := by decide +kernel
theorem dX9_goesTruly_26 : decode cX9_goesTruly 26 = .ok (.iconst 1, 1) := by decide +kernel
theorem dX9_goesTruly_27 : decode cX9_goesTruly 27 = .ok (.iadd, 1) := by decide +kernel
theorem dX9_goesTruly_28 : decode cX9_goesTruly 28 = .ok (.iastore, 1) := by decide +kernel
theorem dX9_goesTruly_29 : decode cX9_goesTruly 29 = .ok (.iconst 1, 1) := by decide +kernel
theorem dX9_goesTruly_30 : decode cX9_goesTruly 30 = .ok (.ireturn, 1) := by decide +kernel
theorem dX9_goesTruly_31 : decode cX9_goesTruly 31 = .ok (.aload_n 0, 1) := by decide +kernel
theorem dX9_goesTruly_32 : decode cX9_goesTruly 32 = .ok (.iconst 1, 1) := by decide +kernel
theorem dX9_goesTruly_33 : decode cX9_goesTruly 33 = .ok (.putfield 144, 3) := by decide +kernel
theorem dX9_goesTruly_36 : decode cX9_goesTruly 36 = .ok (.aload_n 0, 1) := by decide +kernel
theorem dX9_goesTruly_37 : decode cX9_goesTruly 37 = .ok (.getfield 21, 3) := by decide +kernel
theorem dX9_goesTruly_40 : decode cX9_goesTruly 40 = .ok (.iconst 0, 1) := by decide +kernel
theorem dX9_goesTruly_41 : decode cX9_goesTruly 41 = .ok (.iload_n 1, 1) := by decide +kernel
theorem dX9_goesTruly_42 : decode cX9_goesTruly 42 = .ok (.iastore, 1) := by decide +kernel
theorem dX9_goesTruly_43 : decode cX9_goesTruly 43 = .ok (.aload_n 0, 1) := by decide +kernel
theorem dX9_goesTruly_44 : decode cX9_goesTruly 44 = .ok (.getfield 21, 3) := by decide +kernel
theorem dX9_goesTruly_47 : decode cX9_goesTruly 47 = .ok (.iconst 1, 1) := by decide +kernel
theorem dX9_goesTruly_48 : decode cX9_goesTruly 48 = .ok (.aload_n 0, 1) := by decide +kernel
theorem dX9_goesTruly_49 : decode cX9_goesTruly 49 = .ok (.getfield 118, 3) := by decide +kernel
theorem dX9_goesTruly_52 : decode cX9_goesTruly 52 = .ok (.iastore, 1) := by decide +kernel
theorem dX9_goesTruly_53 : decode cX9_goesTruly 53 = .ok (.aload_n 0, 1) := by decide +kernel
theorem dX9_goesTruly_54 : decode cX9_goesTruly 54 = .ok (.getfield 21, 3) := by decide +kernel
theorem dX9_goesTruly_57 : decode cX9_goesTruly 57 = .ok (.iconst 2, 1) := by decide +kernel
theorem dX9_goesTruly_58 : decode cX9_goesTruly 58 = .ok (.aload_n 0, 1) := by decide +kernel
theorem dX9_goesTruly_59 : decode cX9_goesTruly 59 = .ok (.getfield 121, 3) := by decide +kernel
theorem dX9_goesTruly_62 : decode cX9_goesTruly 62 = .ok (.iastore, 1) := by decide +kernel
theorem dX9_goesTruly_63 : decode cX9_goesTruly 63 = .ok (.aload_n 0, 1) := by decide +kernel
theorem dX9_goesTruly_64 : decode cX9_goesTruly 64 = .ok (.getfield 21, 3) := by decide +kernel
theorem dX9_goesTruly_67 : decode cX9_goesTruly 67 = .ok (.iconst 3, 1) := by decide +kernel
theorem dX9_goesTruly_68 : decode cX9_goesTruly 68 = .ok (.aload_n 0, 1) := by decide +kernel
theorem dX9_goesTruly_69 : decode cX9_goesTruly 69 = .ok (.getfield 124, 3) := by decide +kernel
theorem dX9_goesTruly_72 : decode cX9_goesTruly 72 = .ok (.iastore, 1) := by decide +kernel
theorem dX9_goesTruly_73 : decode cX9_goesTruly 73 = .ok (.iconst 0, 1) := by decide +kernel
theorem dX9_goesTruly_74 : decode cX9_goesTruly 74 = .ok (.ireturn, 1) := by decide +kernel
theorem dX9_isUp_0 : decode cX9_isUp 0 = .ok (.aload_n 0, 1) := by decide +kernel
theorem dX9_isUp_1 : decode cX9_isUp 1 = .ok (.getfield 9, 3) := by decide +kernel
theorem dX9_isUp_4 : decode cX9_isUp 4 = .ok (.bipush 90, 2) := by decide +kernel
theorem dX9_isUp_6 : decode cX9_isUp 6 = .ok (.iload_n 1, 1) := by decide +kernel
theorem dX9_isUp_7 : decode cX9_isUp 7 = .ok (.iadd, 1) := by decide +kernel
theorem dX9_isUp_8 : decode cX9_isUp 8 = .ok (.iaload, 1) := by decide +kernel
theorem dX9_isUp_9 : decode cX9_isUp 9 = .ok (.iconst 1, 1) := by decide +kernel
theorem dX9_isUp_10 : decode cX9_isUp 10 = .ok (.if_icmp .ne 7, 3) := by decide +kernel
theorem dX9_isUp_13 : decode cX9_isUp 13 = .ok (.iconst 1, 1) := by decide +kernel
theorem dX9_isUp_14 : decode cX9_isUp 14 = .ok (.goto 4, 3) := by decide +kernel
theorem dX9_isUp_17 : decode cX9_isUp 17 = .ok (.iconst 0, 1) := by decide +kernel
theorem dX9_isUp_18 : decode cX9_isUp 18 = .ok (.ireturn, 1) := by decide +kernel
theorem dX9_lockOf_0 : decode cX9_lockOf 0 = .ok (.aload_n 0, 1) := by decide +kernel
theorem dX9_lockOf_1 : decode cX9_lockOf 1 = .ok (.iload_n 1, 1) := by decide +kernel
theorem dX9_lockOf_2 : decode cX9_lockOf 2 = .ok (.invokevirtual 148, 3) := by decide +kernel
theorem dX9_lockOf_5 : decode cX9_lockOf 5 = .ok (.ifCond .eq 15, 3) := by decide +kernel
theorem dX9_lockOf_8 : decode cX9_lockOf 8 = .ok (.aload_n 0, 1) := by decide +kernel
theorem dX9_lockOf_9 : decode cX9_lockOf 9 = .ok (.getfield 9, 3) := by decide +kernel
theorem dX9_lockOf_12 : decode cX9_lockOf 12 = .ok (.bipush 102, 2) := by decide +kernel
theorem dX9_lockOf_14 : decode cX9_lockOf 14 = .ok (.iload_n 1, 1) := by decide +kernel
theorem dX9_lockOf_15 : decode cX9_lockOf 15 = .ok (.iadd, 1) := by decide +kernel
theorem dX9_lockOf_16 : decode cX9_lockOf 16 = .ok (.iaload, 1) := by decide +kernel
theorem dX9_lockOf_17 : decode cX9_lockOf 17 = .ok (.goto 14, 3) := by decide +kernel
theorem dX9_lockOf_20 : decode cX9_lockOf 20 = .ok (.aload_n 0, 1) := by decide +kernel
theorem dX9_lockOf_21 : decode cX9_lockOf 21 = .ok (.getfield 9, 3) := by decide +kernel
theorem dX9_lockOf_24 : decode cX9_lockOf 24 = .ok (.bipush 102, 2) := by decide +kernel
theorem dX9_lockOf_26 : decode cX9_lockOf 26 = .ok (.iload_n 1, 1) := by decide +kernel
theorem dX9_lockOf_27 : decode cX9_lockOf 27 = .ok (.iadd, 1) := by decide +kernel
theorem dX9_lockOf_28 : decode cX9_lockOf 28 = .ok (.iaload, 1) := by decide +kernel
theorem dX9_lockOf_29 : decode cX9_lockOf 29 = .ok (.iconst 1, 1) := by decide +kernel
theorem dX9_lockOf_30 : decode cX9_lockOf 30 = .ok (.isub, 1) := by decide +kernel
theorem dX9_lockOf_31 : decode cX9_lockOf 31 = .ok (.istore_n 2, 1) := by decide +kernel
theorem dX9_lockOf_32 : decode cX9_lockOf 32 = .ok (.aload_n 0, 1) := by decide +kernel
theorem dX9_lockOf_33 : decode cX9_lockOf 33 = .ok (.iload_n 2, 1) := by decide +kernel
theorem dX9_lockOf_34 : decode cX9_lockOf 34 = .ok (.invokevirtual 50, 3) := by decide +kernel
theorem dX9_lockOf_37 : decode cX9_lockOf 37 = .ok (.ifCond .eq 7, 3) := by decide +kernel
theorem dX9_lockOf_40 : decode cX9_lockOf 40 = .ok (.iload_n 2, 1) := by decide +kernel
theorem dX9_lockOf_41 : decode cX9_lockOf 41 = .ok (.goto 5, 3) := by decide +kernel
theorem dX9_lockOf_44 : decode cX9_lockOf 44 = .ok (.bipush (-2), 2) := by decide +kernel
theorem dX9_lockOf_46 : decode cX9_lockOf 46 = .ok (.ireturn, 1) := by decide +kernel
theorem dX9_boatGoes_0 : decode cX9_boatGoes 0 = .ok (.aload_n 0, 1) := by decide +kernel
theorem dX9_boatGoes_1 : decode cX9_boatGoes 1 = .ok (.iload_n 1, 1) := by decide +kernel
theorem dX9_boatGoes_2 : decode cX9_boatGoes 2 = .ok (.invokevirtual 151, 3) := by decide +kernel
theorem dX9_boatGoes_5 : decode cX9_boatGoes 5 = .ok (.istore_n 3, 1) := by decide +kernel
theorem dX9_boatGoes_6 : decode cX9_boatGoes 6 = .ok (.aload_n 0, 1) := by decide +kernel
theorem dX9_boatGoes_7 : decode cX9_boatGoes 7 = .ok (.iload_n 1, 1) := by decide +kernel
theorem dX9_boatGoes_8 : decode cX9_boatGoes 8 = .ok (.invokevirtual 148, 3) := by decide +kernel
theorem dX9_boatGoes_11 : decode cX9_boatGoes 11 = .ok (.istore 4, 2) := by decide +kernel
theorem dX9_boatGoes_13 : decode cX9_boatGoes 13 = .ok (.iload_n 2, 1) := by decide +kernel
theorem dX9_boatGoes_14 : decode cX9_boatGoes 14 = .ok (.ifCond .eq 25, 3) := by decide +kernel
theorem dX9_boatGoes_17 : decode cX9_boatGoes 17 = .ok (.aload_n 0, 1) := by decide +kernel
theorem dX9_boatGoes_18 : decode cX9_boatGoes 18 = .ok (.iload_n 3, 1) := by decide +kernel
theorem dX9_boatGoes_19 : decode cX9_boatGoes 19 = .ok (.iload 4, 2) := by decide +kernel
theorem dX9_boatGoes_21 : decode cX9_boatGoes 21 = .ok (.aload_n 0, 1) := by decide +kernel
theorem dX9_boatGoes_22 : decode cX9_boatGoes 22 = .ok (.getfield 9, 3) := by decide +kernel
theorem dX9_boatGoes_25 : decode cX9_boatGoes 25 = .ok (.bipush 66, 2) := by decide +kernel
theorem dX9_boatGoes_27 : decode cX9_boatGoes 27 = .ok (.iload_n 1, 1) := by decide +kernel
theorem dX9_boatGoes_28 : decode cX9_boatGoes 28 = .ok (.iadd, 1) := by decide +kernel
theorem dX9_boatGoes_29 : decode cX9_boatGoes 29 = .ok (.iaload, 1) := by decide +kernel
theorem dX9_boatGoes_30 : decode cX9_boatGoes 30 = .ok (.invokevirtual 154, 3) := by decide +kernel
theorem dX9_boatGoes_33 : decode cX9_boatGoes 33 = .ok (.ifCond .ne 27, 3) := by decide +kernel
theorem dX9_boatGoes_36 : decode cX9_boatGoes 36 = .ok (.goto 22, 3) := by decide +kernel
theorem dX9_boatGoes_39 : decode cX9_boatGoes 39 = .ok (.aload_n 0, 1) := by decide +kernel
theorem dX9_boatGoes_40 : decode cX9_boatGoes 40 = .ok (.iload_n 3, 1) := by decide +kernel
theorem dX9_boatGoes_41 : decode cX9_boatGoes 41 = .ok (.iload 4, 2) := by decide +kernel
theorem dX9_boatGoes_43 : decode cX9_boatGoes 43 = .ok (.aload_n 0, 1) := by decide +kernel
theorem dX9_boatGoes_44 : decode cX9_boatGoes 44 = .ok (.getfield 9, 3) := by decide +kernel
theorem dX9_boatGoes_47 : decode cX9_boatGoes 47 = .ok (.bipush 66, 2) := by decide +kernel
theorem dX9_boatGoes_49 : decode cX9_boatGoes 49 = .ok (.iload_n 1, 1) := by decide +kernel
theorem dX9_boatGoes_50 : decode cX9_boatGoes 50 = .ok (.iadd, 1) := by decide +kernel
theorem dX9_boatGoes_51 : decode cX9_boatGoes 51 = .ok (.iaload, 1) := by decide +kernel
theorem dX9_boatGoes_52 : decode cX9_boatGoes 52 = .ok (.invokevirtual 140, 3) := by decide +kernel
theorem dX9_boatGoes_55 : decode cX9_boatGoes 55 = .ok (.ifCond .ne 5, 3) := by decide +kernel
theorem dX9_boatGoes_58 : decode cX9_boatGoes 58 = .ok (.iconst 0, 1) := by decide +kernel
theorem dX9_boatGoes_59 : decode cX9_boatGoes 59 = .ok (.ireturn, 1) := by decide +kernel
theorem dX9_boatGoes_60 : decode cX9_boatGoes 60 = .ok (.aload_n 0, 1) := by decide +kernel
theorem dX9_boatGoes_61 : decode cX9_boatGoes 61 = .ok (.getfield 9, 3) := by decide +kernel
theorem dX9_boatGoes_64 : decode cX9_boatGoes 64 = .ok (.bipush 102, 2) := by decide +kernel
theorem dX9_boatGoes_66 : decode cX9_boatGoes 66 = .ok (.iload_n 1, 1) := by decide +kernel
theorem dX9_boatGoes_67 : decode cX9_boatGoes 67 = .ok (.iadd, 1) := by decide +kernel
theorem dX9_boatGoes_68 : decode cX9_boatGoes 68 = .ok (.iload 4, 2) := by decide +kernel
theorem dX9_boatGoes_70 : decode cX9_boatGoes 70 = .ok (.ifCond .eq 9, 3) := by decide +kernel
theorem dX9_boatGoes_73 : decode cX9_boatGoes 73 = .ok (.iload_n 3, 1) := by decide +kernel
theorem dX9_boatGoes_74 : decode cX9_boatGoes 74 = .ok (.iconst 1, 1) := by decide +kernel
theorem dX9_boatGoes_75 : decode cX9_boatGoes 75 = .ok (.iadd, 1) := by decide +kernel
theorem dX9_boatGoes_76 : decode cX9_boatGoes 76 = .ok (.goto 4, 3) := by decide +kernel
theorem dX9_boatGoes_79 : decode cX9_boatGoes 79 = .ok (.iload_n 3, 1) := by decide +kernel
theorem dX9_boatGoes_80 : decode cX9_boatGoes 80 = .ok (.iastore, 1) := by decide +kernel
theorem dX9_boatGoes_81 : decode cX9_boatGoes 81 = .ok (.iconst 1, 1) := by decide +kernel
theorem dX9_boatGoes_82 : decode cX9_boatGoes 82 = .ok (.ireturn, 1) := by decide +kernel
theorem dX9_pass_0 : decode cX9_pass 0 = .ok (.aload_n 0, 1) := by decide +kernel
theorem dX9_pass_1 : decode cX9_pass 1 = .ok (.iload_n 1, 1) := by decide +kernel
theorem dX9_pass_2 : decode cX9_pass 2 = .ok (.invokevirtual 112, 3) := by decide +kernel
theorem dX9_pass_5 : decode cX9_pass 5 = .ok (.ifCond .ne 6, 3) := by decide +kernel
theorem dX9_pass_8 : decode cX9_pass 8 = .ok (.ldc 157, 2) := by decide +kernel
theorem dX9_pass_10 : decode cX9_pass 10 = .ok (.ireturn, 1) := by decide +kernel
theorem dX9_pass_11 : decode cX9_pass 11 = .ok (.aload_n 0, 1) := by decide +kernel
theorem dX9_pass_12 : decode cX9_pass 12 = .ok (.iload_n 1, 1) := by decide +kernel
theorem dX9_pass_13 : decode cX9_pass 13 = .ok (.invokevirtual 151, 3) := by decide +kernel
theorem dX9_pass_16 : decode cX9_pass 16 = .ok (.bipush (-2), 2) := by decide +kernel
theorem dX9_pass_18 : decode cX9_pass 18 = .ok (.if_icmp .ne 6, 3) := by decide +kernel
theorem dX9_pass_21 : decode cX9_pass 21 = .ok (.ldc 158, 2) := by decide +kernel
theorem dX9_pass_23 : decode cX9_pass 23 = .ok (.ireturn, 1) := by decide +kernel
theorem dX9_pass_24 : decode cX9_pass 24 = .ok (.aload_n 0, 1) := by decide +kernel
theorem dX9_pass_25 : decode cX9_pass 25 = .ok (.iload_n 1, 1) := by decide +kernel
theorem dX9_pass_26 : decode cX9_pass 26 = .ok (.iconst 1, 1) := by decide +kernel
theorem dX9_pass_27 : decode cX9_pass 27 = .ok (.invokevirtual 159, 3) := by decide +kernel
theorem dX9_pass_30 : decode cX9_pass 30 = .ok (.ifCond .eq 10, 3) := by decide +kernel
theorem dX9_pass_33 : decode cX9_pass 33 = .ok (.aload_n 0, 1) := by decide +kernel
theorem dX9_pass_34 : decode cX9_pass 34 = .ok (.getfield 137, 3) := by decide +kernel
theorem dX9_pass_37 : decode cX9_pass 37 = .ok (.goto 5, 3) := by decide +kernel
theorem dX9_pass_40 : decode cX9_pass 40 = .ok (.ldc 163, 2) := by decide +kernel
theorem dX9_pass_42 : decode cX9_pass 42 = .ok (.ireturn, 1) := by decide +kernel
theorem dX9_through_0 : decode cX9_through 0 = .ok (.aload_n 0, 1) := by decide +kernel
theorem dX9_through_1 : decode cX9_through 1 = .ok (.iload_n 1, 1) := by decide +kernel
theorem dX9_through_2 : decode cX9_through 2 = .ok (.invokevirtual 112, 3) := by decide +kernel
theorem dX9_through_5 : decode cX9_through 5 = .ok (.ifCond .ne 5, 3) := by decide +kernel
theorem dX9_through_8 : decode cX9_through 8 = .ok (.iconst (-1), 1) := by decide +kernel
theorem dX9_through_9 : decode cX9_through 9 = .ok (.ireturn, 1) := by decide +kernel
theorem dX9_through_10 : decode cX9_through 10 = .ok (.iconst 0, 1) := by decide +kernel
theorem dX9_through_11 : decode cX9_through 11 = .ok (.istore_n 2, 1) := by decide +kernel
theorem dX9_through_12 : decode cX9_through 12 = .ok (.aload_n 0, 1) := by decide +kernel
theorem dX9_through_13 : decode cX9_through 13 = .ok (.iload_n 1, 1) := by decide +kernel
theorem dX9_through_14 : decode cX9_through 14 = .ok (.invokevirtual 151, 3) := by decide +kernel
theorem dX9_through_17 : decode cX9_through 17 = .ok (.bipush (-2), 2) := by decide +kernel
theorem dX9_through_19 : decode cX9_through 19 = .ok (.if_icmp .eq 18, 3) := by decide +kernel
theorem dX9_through_22 : decode cX9_through 22 = .ok (.aload_n 0, 1) := by decide +kernel
theorem dX9_through_23 : decode cX9_through 23 = .ok (.iload_n 1, 1) := by decide +kernel
theorem dX9_through_24 : decode cX9_through 24 = .ok (.iconst 1, 1) := by decide +kernel
theorem dX9_through_25 : decode cX9_through 25 = .ok (.invokevirtual 159, 3) := by decide +kernel
theorem dX9_through_28 : decode cX9_through 28 = .ok (.ifCond .eq 9, 3) := by decide +kernel
theorem dX9_through_31 : decode cX9_through 31 = .ok (.iinc 2 1, 3) := by decide +kernel
theorem dX9_through_34 : decode cX9_through 34 = .ok (.goto (-22), 3) := by decide +kernel
theorem dX9_through_37 : decode cX9_through 37 = .ok (.iload_n 2, 1) := by decide +kernel
theorem dX9_through_38 : decode cX9_through 38 = .ok (.ireturn, 1) := by decide +kernel
theorem dX9_costs_0 : decode cX9_costs 0 = .ok (.aload_n 0, 1) := by decide +kernel
theorem dX9_costs_1 : decode cX9_costs 1 = .ok (.iload_n 1, 1) := by decide +kernel
theorem dX9_costs_2 : decode cX9_costs 2 = .ok (.invokevirtual 112, 3) := by decide +kernel
theorem dX9_costs_5 : decode cX9_costs 5 = .ok (.ifCond .ne 6, 3) := by decide +kernel
theorem dX9_costs_8 : decode cX9_costs 8 = .ok (.ldc 157, 2) := by decide +kernel
theorem dX9_costs_10 : decode cX9_costs 10 = .ok (.ireturn, 1) := by decide +kernel
theorem dX9_costs_11 : decode cX9_costs 11 = .ok (.aload_n 0, 1) := by decide +kernel
theorem dX9_costs_12 : decode cX9_costs 12 = .ok (.getfield 9, 3) := by decide +kernel
theorem dX9_costs_15 : decode cX9_costs 15 = .ok (.aload_n 0, 1) := by decide +kernel
theorem dX9_costs_16 : decode cX9_costs 16 = .ok (.getfield 18, 3) := by decide +kernel
theorem dX9_costs_19 : decode cX9_costs 19 = .ok (.invokestatic 105, 3) := by decide +kernel
theorem dX9_costs_22 : decode cX9_costs 22 = .ok (.bipush 24, 2) := by decide +kernel
theorem dX9_costs_24 : decode cX9_costs 24 = .ok (.aload_n 0, 1) := by decide +kernel
theorem dX9_costs_25 : decode cX9_costs 25 = .ok (.getfield 9, 3) := by decide +kernel
theorem dX9_costs_28 : decode cX9_costs 28 = .ok (.bipush 53, 2) := by decide +kernel
theorem dX9_costs_30 : decode cX9_costs 30 = .ok (.iaload, 1) := by decide +kernel
theorem dX9_costs_31 : decode cX9_costs 31 = .ok (.iadd, 1) := by decide +kernel
theorem dX9_costs_32 : decode cX9_costs 32 = .ok (.istore_n 2, 1) := by decide +kernel
theorem dX9_costs_33 : decode cX9_costs 33 = .ok (.aload_n 0, 1) := by decide +kernel
theorem dX9_costs_34 : decode cX9_costs 34 = .ok (.getfield 9, 3) := by decide +kernel
theorem dX9_costs_37 : decode cX9_costs 37 = .ok (.iload_n 2, 1) := by decide +kernel
theorem dX9_costs_38 : decode cX9_costs 38 = .ok (.iaload, 1) := by decide +kernel
theorem dX9_costs_39 : decode cX9_costs 39 = .ok (.istore_n 3, 1) := by decide +kernel
theorem dX9_costs_40 : decode cX9_costs 40 = .ok (.iconst 1, 1) := by decide +kernel
theorem dX9_costs_41 : decode cX9_costs 41 = .ok (.istore 4, 2) := by decide +kernel
theorem dX9_costs_43 : decode cX9_costs 43 = .ok (.iload 4, 2) := by decide +kernel
theorem dX9_costs_45 : decode cX9_costs 45 = .ok (.ifCond .eq 24, 3) := by decide +kernel
theorem dX9_costs_48 : decode cX9_costs 48 = .ok (.aload_n 0, 1) := by decide +kernel
theorem dX9_costs_49 : decode cX9_costs 49 = .ok (.iload_n 1, 1) := by decide +kernel
theorem dX9_costs_50 : decode cX9_costs 50 = .ok (.invokevirtual 151, 3) := by decide +kernel
theorem dX9_costs_53 : decode cX9_costs 53 = .ok (.bipush (-2), 2) := by decide +kernel
theorem dX9_costs_55 : decode cX9_costs 55 = .ok (.if_icmp .eq 14, 3) := by decide +kernel
theorem dX9_costs_58 : decode cX9_costs 58 = .ok (.aload_n 0, 1) := by decide +kernel
theorem dX9_costs_59 : decode cX9_costs 59 = .ok (.iload_n 1, 1) := by decide +kernel
theorem dX9_costs_60 : decode cX9_costs 60 = .ok (.iconst 0, 1) := by decide +kernel
theorem dX9_costs_61 : decode cX9_costs 61 = .ok (.invokevirtual 159, 3) := by decide +kernel
theorem dX9_costs_64 : decode cX9_costs 64 = .ok (.istore 4, 2) := by decide +kernel
theorem dX9_costs_66 : decode cX9_costs 66 = .ok (.goto (-23), 3) := by decide +kernel
theorem dX9_costs_69 : decode cX9_costs 69 = .ok (.iload_n 3, 1) := by decide +kernel
theorem dX9_costs_70 : decode cX9_costs 70 = .ok (.aload_n 0, 1) := by decide +kernel
theorem dX9_costs_71 : decode cX9_costs 71 = .ok (.getfield 9, 3) := by decide +kernel
theorem dX9_costs_74 : decode cX9_costs 74 = .ok (.iload_n 2, 1) := by decide +kernel
theorem dX9_costs_75 : decode cX9_costs 75 = .ok (.iaload, 1) := by decide +kernel
theorem dX9_costs_76 : decode cX9_costs 76 = .ok (.isub, 1) := by decide +kernel
theorem dX9_costs_77 : decode cX9_costs 77 = .ok (.istore 5, 2) := by decide +kernel
theorem dX9_costs_79 : decode cX9_costs 79 = .ok (.aload_n 0, 1) := by decide +kernel
theorem dX9_costs_80 : decode cX9_costs 80 = .ok (.getfield 18, 3) := by decide +kernel
theorem dX9_costs_83 : decode cX9_costs 83 = .ok (.aload_n 0, 1) := by decide +kernel
theorem dX9_costs_84 : decode cX9_costs 84 = .ok (.getfield 9, 3) := by decide +kernel
theorem dX9_costs_87 : decode cX9_costs 87 = .ok (.invokestatic 105, 3) := by decide +kernel
theorem dX9_costs_90 : decode cX9_costs 90 = .ok (.iload 5, 2) := by decide +kernel
theorem dX9_costs_92 : decode cX9_costs 92 = .ok (.ireturn, 1) := by decide +kernel
theorem dX9_why_0 : decode cX9_why 0 = .ok (.iload_n 1, 1) := by decide +kernel
theorem dX9_why_1 : decode cX9_why 1 = .ok (.iconst 0, 1) := by decide +kernel
theorem dX9_why_2 : decode cX9_why 2 = .ok (.iconst 3, 1) := by decide +kernel
theorem dX9_why_3 : decode cX9_why 3 = .ok (.invokestatic 46, 3) := by decide +kernel
theorem dX9_why_6 : decode cX9_why 6 = .ok (.ifCond .ne 5, 3) := by decide +kernel
theorem dX9_why_9 : decode cX9_why 9 = .ok (.iconst (-1), 1) := by decide +kernel
theorem dX9_why_10 : decode cX9_why 10 = .ok (.ireturn, 1) := by decide +kernel
theorem dX9_why_11 : decode cX9_why 11 = .ok (.aload_n 0, 1) := by decide +kernel
theorem dX9_why_12 : decode cX9_why 12 = .ok (.getfield 144, 3) := by decide +kernel
theorem dX9_why_15 : decode cX9_why 15 = .ok (.ifCond .eq 12, 3) := by decide +kernel
theorem dX9_why_18 : decode cX9_why 18 = .ok (.aload_n 0, 1) := by decide +kernel
theorem dX9_why_19 : decode cX9_why 19 = .ok (.getfield 21, 3) := by decide +kernel
theorem dX9_why_22 : decode cX9_why 22 = .ok (.iload_n 1, 1) := by decide +kernel
theorem dX9_why_23 : decode cX9_why 23 = .ok (.iaload, 1) := by decide +kernel
theorem dX9_why_24 : decode cX9_why 24 = .ok (.goto 5, 3) := by decide +kernel
theorem dX9_why_27 : decode cX9_why 27 = .ok (.bipush (-2), 2) := by decide +kernel
theorem dX9_why_29 : decode cX9_why 29 = .ok (.ireturn, 1) := by decide +kernel
theorem dX9_queues_0 : decode cX9_queues 0 = .ok (.iconst 0, 1) := by decide +kernel
theorem dX9_queues_1 : decode cX9_queues 1 = .ok (.istore 4, 2) := by decide +kernel
theorem dX9_queues_3 : decode cX9_queues 3 = .ok (.iconst 0, 1) := by decide +kernel
theorem dX9_queues_4 : decode cX9_queues 4 = .ok (.istore 5, 2) := by decide +kernel
theorem dX9_queues_6 : decode cX9_queues 6 = .ok (.iload 5, 2) := by decide +kernel
theorem dX9_queues_8 : decode cX9_queues 8 = .ok (.aload_n 0, 1) := by decide +kernel
theorem dX9_queues_9 : decode cX9_queues 9 = .ok (.getfield 9, 3) := by decide +kernel
theorem dX9_queues_12 : decode cX9_queues 12 = .ok (.bipush 114, 2) := by decide +kernel
theorem dX9_queues_14 : decode cX9_queues 14 = .ok (.iaload, 1) := by decide +kernel
theorem dX9_queues_15 : decode cX9_queues 15 = .ok (.if_icmp .ge 101, 3) := by decide +kernel
theorem dX9_queues_18 : decode cX9_queues 18 = .ok (.aload_n 0, 1) := by decide +kernel
theorem dX9_queues_19 : decode cX9_queues 19 = .ok (.getfield 9, 3) := by decide +kernel
theorem dX9_queues_22 : decode cX9_queues 22 = .ok (.bipush 102, 2) := by decide +kernel
theorem dX9_queues_24 : decode cX9_queues 24 = .ok (.iload 5, 2) := by decide +kernel
theorem dX9_queues_26 : decode cX9_queues 26 = .ok (.iadd, 1) := by decide +kernel
theorem dX9_queues_27 : decode cX9_queues 27 = .ok (.iaload, 1) := by decide +kernel
theorem dX9_queues_28 : decode cX9_queues 28 = .ok (.iload_n 1, 1) := by decide +kernel
theorem dX9_queues_29 : decode cX9_queues 29 = .ok (.if_icmp .ne 81, 3) := by decide +kernel
theorem dX9_queues_32 : decode cX9_queues 32 = .ok (.aload_n 0, 1) := by decide +kernel
theorem dX9_queues_33 : decode cX9_queues 33 = .ok (.getfield 9, 3) := by decide +kernel
theorem dX9_queues_36 : decode cX9_queues 36 = .ok (.bipush 90, 2) := by decide +kernel
theorem dX9_queues_38 : decode cX9_queues 38 = .ok (.iload 5, 2) := by decide +kernel
theorem dX9_queues_40 : decode cX9_queues 40 = .ok (.iadd, 1) := by decide +kernel
theorem dX9_queues_41 : decode cX9_queues 41 = .ok (.iaload, 1) := by decide +kernel
theorem dX9_queues_42 : decode cX9_queues 42 = .ok (.iload_n 2, 1) := by decide +kernel
theorem dX9_queues_43 : decode cX9_queues 43 = .ok (.if_icmp .eq 6, 3) := by decide +kernel
theorem dX9_queues_46 : decode cX9_queues 46 = .ok (.goto 64, 3) := by decide +kernel
theorem dX9_queues_49 : decode cX9_queues 49 = .ok (.iload 4, 2) := by decide +kernel
theorem dX9_queues_51 : decode cX9_queues 51 = .ok (.istore 6, 2) := by decide +kernel
theorem dX9_queues_53 : decode cX9_queues 53 = .ok (.iload 6, 2) := by decide +kernel
theorem dX9_queues_55 : decode cX9_queues 55 = .ok (.ifCond .le 46, 3) := by decide +kernel
theorem dX9_queues_58 : decode cX9_queues 58 = .ok (.aload_n 0, 1) := by decide +kernel
theorem dX9_queues_59 : decode cX9_queues 59 = .ok (.getfield 9, 3) := by decide +kernel
theorem dX9_queues_62 : decode cX9_queues 62 = .ok (.bipush 78, 2) := by decide +kernel
theorem dX9_queues_64 : decode cX9_queues 64 = .ok (.aload_n 3, 1) := by decide +kernel
theorem dX9_queues_65 : decode cX9_queues 65 = .ok (.iload 6, 2) := by decide +kernel
theorem dX9_queues_67 : decode cX9_queues 67 = .ok (.iconst 1, 1) := by decide +kernel
theorem dX9_queues_68 : decode cX9_queues 68 = .ok (.isub, 1) := by decide +kernel
theorem dX9_queues_69 : decode cX9_queues 69 = .ok (.iaload, 1) := by decide +kernel
theorem dX9_queues_70 : decode cX9_queues 70 = .ok (.iadd, 1) := by decide +kernel
theorem dX9_queues_71 : decode cX9_queues 71 = .ok (.iaload, 1) := by decide +kernel
theorem dX9_queues_72 : decode cX9_queues 72 = .ok (.aload_n 0, 1) := by decide +kernel
theorem dX9_queues_73 : decode cX9_queues 73 = .ok (.getfield 9, 3) := by decide +kernel
theorem dX9_queues_76 : decode cX9_queues 76 = .ok (.bipush 78, 2) := by decide +kernel
theorem dX9_queues_78 : decode cX9_queues 78 = .ok (.iload 5, 2) := by decide +kernel
theorem dX9_queues_80 : decode cX9_queues 80 = .ok (.iadd, 1) := by decide +kernel
theorem dX9_queues_81 : decode cX9_queues 81 = .ok (.iaload, 1) := by decide +kernel
theorem dX9_queues_82 : decode cX9_queues 82 = .ok (.if_icmp .ge 19, 3) := by decide +kernel
theorem dX9_queues_85 : decode cX9_queues 85 = .ok (.aload_n 3, 1) := by decide +kernel
theorem dX9_queues_86 : decode cX9_queues 86 = .ok (.iload 6, 2) := by decide +kernel
theorem dX9_queues_88 : decode cX9_queues 88 = .ok (.aload_n 3, 1) := by decide +kernel
theorem dX9_queues_89 : decode cX9_queues 89 = .ok (.iload 6, 2) := by decide +kernel
theorem dX9_queues_91 : decode cX9_queues 91 = .ok (.iconst 1, 1) := by decide +kernel
theorem dX9_queues_92 : decode cX9_queues 92 = .ok (.isub, 1) := by decide +kernel
theorem dX9_queues_93 : decode cX9_queues 93 = .ok (.iaload, 1) := by decide +kernel
theorem dX9_queues_94 : decode cX9_queues 94 = .ok (.iastore, 1) := by decide +kernel
theorem dX9_queues_95 : decode cX9_queues 95 = .ok (.iinc 6 (-1), 3) := by decide +kernel
theorem dX9_queues_98 : decode cX9_queues 98 = .ok (.goto (-45), 3) := by decide +kernel
theorem dX9_queues_101 : decode cX9_queues 101 = .ok (.aload_n 3, 1) := by decide +kernel
theorem dX9_queues_102 : decode cX9_queues 102 = .ok (.iload 6, 2) := by decide +kernel
theorem dX9_queues_104 : decode cX9_queues 104 = .ok (.iload 5, 2) := by decide +kernel
theorem dX9_queues_106 : decode cX9_queues 106 = .ok (.iastore, 1) := by decide +kernel
theorem dX9_queues_107 : decode cX9_queues 107 = .ok (.iinc 4 1, 3) := by decide +kernel
theorem dX9_queues_110 : decode cX9_queues 110 = .ok (.iinc 5 1, 3) := by decide +kernel
theorem dX9_queues_113 : decode cX9_queues 113 = .ok (.goto (-107), 3) := by decide +kernel
theorem dX9_queues_116 : decode cX9_queues 116 = .ok (.iload 4, 2) := by decide +kernel
theorem dX9_queues_118 : decode cX9_queues 118 = .ok (.ireturn, 1) := by decide +kernel
theorem dX9_queuesOf_0 : decode cX9_queuesOf 0 = .ok (.aload_n 0, 1) := by decide +kernel
theorem dX9_queuesOf_1 : decode cX9_queuesOf 1 = .ok (.aload_n 0, 1) := by decide +kernel
theorem dX9_queuesOf_2 : decode cX9_queuesOf 2 = .ok (.iload_n 1, 1) := by decide +kernel
theorem dX9_queuesOf_3 : decode cX9_queuesOf 3 = .ok (.iconst 1, 1) := by decide +kernel
theorem dX9_queuesOf_4 : decode cX9_queuesOf 4 = .ok (.aload_n 0, 1) := by decide +kernel
theorem dX9_queuesOf_5 : decode cX9_queuesOf 5 = .ok (.getfield 30, 3) := by decide +kernel
theorem dX9_queuesOf_8 : decode cX9_queuesOf 8 = .ok (.invokevirtual 164, 3) := by decide +kernel
theorem dX9_queuesOf_11 : decode cX9_queuesOf 11 = .ok (.putfield 168, 3) := by decide +kernel
theorem dX9_queuesOf_14 : decode cX9_queuesOf 14 = .ok (.aload_n 0, 1) := by decide +kernel
theorem dX9_queuesOf_15 : decode cX9_queuesOf 15 = .ok (.aload_n 0, 1) := by decide +kernel
theorem dX9_queuesOf_16 : decode cX9_queuesOf 16 = .ok (.iload_n 1, 1) := by decide +kernel
theorem dX9_queuesOf_17 : decode cX9_queuesOf 17 = .ok (.iconst 1, 1) := by decide +kernel
theorem dX9_queuesOf_18 : decode cX9_queuesOf 18 = .ok (.iadd, 1) := by decide +kernel
theorem dX9_queuesOf_19 : decode cX9_queuesOf 19 = .ok (.iconst 0, 1) := by decide +kernel
theorem dX9_queuesOf_20 : decode cX9_queuesOf 20 = .ok (.aload_n 0, 1) := by decide +kernel
theorem dX9_queuesOf_21 : decode cX9_queuesOf 21 = .ok (.getfield 33, 3) := by decide +kernel
theorem dX9_queuesOf_24 : decode cX9_queuesOf 24 = .ok (.invokevirtual 164, 3) := by decide +kernel
theorem dX9_queuesOf_27 : decode cX9_queuesOf 27 = .ok (.putfield 171, 3) := by decide +kernel
theorem dX9_queuesOf_30 : decode cX9_queuesOf 30 = .ok (.return_, 1) := by decide +kernel
theorem dX9_queue_0 : decode cX9_queue 0 = .ok (.aload_n 0, 1) := by decide +kernel
theorem dX9_queue_1 : decode cX9_queue 1 = .ok (.iload_n 1, 1) := by decide +kernel
theorem dX9_queue_2 : decode cX9_queue 2 = .ok (.invokevirtual 50, 3) := by decide +kernel
theorem dX9_queue_5 : decode cX9_queue 5 = .ok (.ifCond .eq 9, 3) := by decide +kernel
theorem dX9_queue_8 : decode cX9_queue 8 = .ok (.iload_n 2, 1) := by decide +kernel
theorem dX9_queue_9 : decode cX9_queue 9 = .ok (.bipush (-2), 2) := by decide +kernel
theorem dX9_queue_11 : decode cX9_queue 11 = .ok (.if_icmp .ge 5, 3) := by decide +kernel
theorem dX9_queue_14 : decode cX9_queue 14 = .ok (.iconst (-1), 1) := by decide +kernel
theorem dX9_queue_15 : decode cX9_queue 15 = .ok (.ireturn, 1) := by decide +kernel
theorem dX9_queue_16 : decode cX9_queue 16 = .ok (.aload_n 0, 1) := by decide +kernel
theorem dX9_queue_17 : decode cX9_queue 17 = .ok (.iload_n 1, 1) := by decide +kernel
theorem dX9_queue_18 : decode cX9_queue 18 = .ok (.invokevirtual 174, 3) := by decide +kernel
theorem dX9_queue_21 : decode cX9_queue 21 = .ok (.iload_n 2, 1) := by decide +kernel
theorem dX9_queue_22 : decode cX9_queue 22 = .ok (.ifCond .ge 20, 3) := by decide +kernel
theorem dX9_queue_25 : decode cX9_queue 25 = .ok (.iload_n 2, 1) := by decide +kernel
theorem dX9_queue_26 : decode cX9_queue 26 = .ok (.iconst (-1), 1) := by decide +kernel
theorem dX9_queue_27 : decode cX9_queue 27 = .ok (.if_icmp .ne 10, 3) := by decide +kernel
theorem dX9_queue_30 : decode cX9_queue 30 = .ok (.aload_n 0, 1) := by decide +kernel
theorem dX9_queue_31 : decode cX9_queue 31 = .ok (.getfield 168, 3) := by decide +kernel
theorem dX9_queue_34 : decode cX9_queue 34 = .ok (.goto 7, 3) := by decide +kernel
theorem dX9_queue_37 : decode cX9_queue 37 = .ok (.aload_n 0, 1) := by decide +kernel
theorem dX9_queue_38 : decode cX9_queue 38 = .ok (.getfield 171, 3) := by decide +kernel
theorem dX9_queue_41 : decode cX9_queue 41 = .ok (.ireturn, 1) := by decide +kernel
theorem dX9_queue_42 : decode cX9_queue 42 = .ok (.iload_n 2, 1) := by decide +kernel
theorem dX9_queue_43 : decode cX9_queue 43 = .ok (.bipush 20, 2) := by decide +kernel
theorem dX9_queue_45 : decode cX9_queue 45 = .ok (.if_icmp .ge 23, 3) := by decide +kernel
theorem dX9_queue_48 : decode cX9_queue 48 = .ok (.iload_n 2, 1) := by decide +kernel
theorem dX9_queue_49 : decode cX9_queue 49 = .ok (.aload_n 0, 1) := by decide +kernel
theorem dX9_queue_50 : decode cX9_queue 50 = .ok (.getfield 168, 3) := by decide +kernel
theorem dX9_queue_53 : decode cX9_queue 53 = .ok (.if_icmp .ge 12, 3) := by decide +kernel
theorem dX9_queue_56 : decode cX9_queue 56 = .ok (.aload_n 0, 1) := by decide +kernel
theorem dX9_queue_57 : decode cX9_queue 57 = .ok (.getfield 30, 3) := by decide +kernel
theorem dX9_queue_60 : decode cX9_queue 60 = .ok (.iload_n 2, 1) := by decide +kernel
theorem dX9_queue_61 : decode cX9_queue 61 = .ok (.iaload, 1) := by decide +kernel
theorem dX9_queue_62 : decode cX9_queue 62 = .ok (.goto 5, 3) := by decide +kernel
theorem dX9_queue_65 : decode cX9_queue 65 = .ok (.bipush (-2), 2) := by decide +kernel
theorem dX9_queue_67 : decode cX9_queue 67 = .ok (.ireturn, 1) := by decide +kernel
theorem dX9_queue_68 : decode cX9_queue 68 = .ok (.iload_n 2, 1) := by decide +kernel
theorem dX9_queue_69 : decode cX9_queue 69 = .ok (.bipush 20, 2) := by decide +kernel
theorem dX9_queue_71 : decode cX9_queue 71 = .ok (.isub, 1) := by decide +kernel
theorem dX9_queue_72 : decode cX9_queue 72 = .ok (.aload_n 0, 1) := by decide +kernel
theorem dX9_queue_73 : decode cX9_queue 73 = .ok (.getfield 171, 3) := by decide +kernel
theorem dX9_queue_76 : decode cX9_queue 76 = .ok (.if_icmp .ge 15, 3) := by decide +kernel
theorem dX9_queue_79 : decode cX9_queue 79 = .ok (.aload_n 0, 1) := by decide +kernel
theorem dX9_queue_80 : decode cX9_queue 80 = .ok (.getfield 33, 3) := by decide +kernel
theorem dX9_queue_83 : decode cX9_queue 83 = .ok (.iload_n 2, 1) := by decide +kernel
theorem dX9_queue_84 : decode cX9_queue 84 = .ok (.bipush 20, 2) := by decide +kernel
theorem dX9_queue_86 : decode cX9_queue 86 = .ok (.isub, 1) := by decide +kernel
theorem dX9_queue_87 : decode cX9_queue 87 = .ok (.iaload, 1) := by decide +kernel
theorem dX9_queue_88 : decode cX9_queue 88 = .ok (.goto 5, 3) := by decide +kernel
theorem dX9_queue_91 : decode cX9_queue 91 = .ok (.bipush (-2), 2) := by decide +kernel
theorem dX9_queue_93 : decode cX9_queue 93 = .ok (.ireturn, 1) := by decide +kernel
theorem dX9_weaves_0 : decode cX9_weaves 0 = .ok (.iload_n 2, 1) := by decide +kernel
theorem dX9_weaves_1 : decode cX9_weaves 1 = .ok (.bipush 6, 2) := by decide +kernel
theorem dX9_weaves_3 : decode cX9_weaves 3 = .ok (.aload_n 0, 1) := by decide +kernel
theorem dX9_weaves_4 : decode cX9_weaves 4 = .ok (.getfield 168, 3) := by decide +kernel
theorem dX9_weaves_7 : decode cX9_weaves 7 = .ok (.invokestatic 177, 3) := by decide +kernel
theorem dX9_weaves_10 : decode cX9_weaves 10 = .ok (.if_icmp .ne 74, 3) := by decide +kernel
theorem dX9_weaves_13 : decode cX9_weaves 13 = .ok (.iload_n 3, 1) := by decide +kernel
theorem dX9_weaves_14 : decode cX9_weaves 14 = .ok (.bipush 6, 2) := by decide +kernel
theorem dX9_weaves_16 : decode cX9_weaves 16 = .ok (.aload_n 0, 1) := by decide +kernel
theorem dX9_weaves_17 : decode cX9_weaves 17 = .ok (.getfield 171, 3) := by decide +kernel
theorem dX9_weaves_20 : decode cX9_weaves 20 = .ok (.invokestatic 177, 3) := by decide +kernel
theorem dX9_weaves_23 : decode cX9_weaves 23 = .ok (.if_icmp .ne 61, 3) := by decide +kernel
theorem dX9_weaves_26 : decode cX9_weaves 26 = .ok (.aload_n 0, 1) := by decide +kernel
theorem dX9_weaves_27 : decode cX9_weaves 27 = .ok (.dup, 1) := by decide +kernel
theorem dX9_weaves_28 : decode cX9_weaves 28 = .ok (.getfield 182, 3) := by decide +kernel
theorem dX9_weaves_31 : decode cX9_weaves 31 = .ok (.iconst 1, 1) := by decide +kernel
theorem dX9_weaves_32 : decode cX9_weaves 32 = .ok (.iadd, 1) := by decide +kernel
theorem dX9_weaves_33 : decode cX9_weaves 33 = .ok (.putfield 182, 3) := by decide +kernel
theorem dX9_weaves_36 : decode cX9_weaves 36 = .ok (.iload 4, 2) := by decide +kernel
theorem dX9_weaves_38 : decode cX9_weaves 38 = .ok (.aload_n 0, 1) := by decide +kernel
theorem dX9_weaves_39 : decode cX9_weaves 39 = .ok (.getfield 185, 3) := by decide +kernel
theorem dX9_weaves_42 : decode cX9_weaves 42 = .ok (.if_icmp .lt 4, 3) := by decide +kernel
theorem dX9_weaves_45 : decode cX9_weaves 45 = .ok (.return_, 1) := by decide +kernel
theorem dX9_weaves_46 : decode cX9_weaves 46 = .ok (.aload_n 0, 1) := by decide +kernel
theorem dX9_weaves_47 : decode cX9_weaves 47 = .ok (.iload 4, 2) := by decide +kernel
theorem dX9_weaves_49 : decode cX9_weaves 49 = .ok (.putfield 185, 3) := by decide +kernel
theorem dX9_weaves_52 : decode cX9_weaves 52 = .ok (.iconst 0, 1) := by decide +kernel
theorem dX9_weaves_53 : decode cX9_weaves 53 = .ok (.istore 5, 2) := by decide +kernel
theorem dX9_weaves_55 : decode cX9_weaves 55 = .ok (.iload 5, 2) := by decide +kernel
theorem dX9_weaves_57 : decode cX9_weaves 57 = .ok (.iload_n 2, 1) := by decide +kernel
theorem dX9_weaves_58 : decode cX9_weaves 58 = .ok (.iload_n 3, 1) := by decide +kernel
theorem dX9_weaves_59 : decode cX9_weaves 59 = .ok (.iadd, 1) := by decide +kernel
theorem dX9_weaves_60 : decode cX9_weaves 60 = .ok (.if_icmp .ge 23, 3) := by decide +kernel
theorem dX9_weaves_63 : decode cX9_weaves 63 = .ok (.aload_n 0, 1) := by decide +kernel
theorem dX9_weaves_64 : decode cX9_weaves 64 = .ok (.getfield 39, 3) := by decide +kernel
theorem dX9_weaves_67 : decode cX9_weaves 67 = .ok (.iload 5, 2) := by decide +kernel
theorem dX9_weaves_69 : decode cX9_weaves 69 = .ok (.aload_n 0, 1) := by decide +kernel
theorem dX9_weaves_70 : decode cX9_weaves 70 = .ok (.getfield 36, 3) := by decide +kernel
theorem dX9_weaves_73 : decode cX9_weaves 73 = .ok (.iload 5, 2) := by decide +kernel
theorem dX9_weaves_75 : decode cX9_weaves 75 = .ok (.iaload, 1) := by decide +kernel
theorem dX9_weaves_76 : decode cX9_weaves 76 = .ok (.iastore, 1) := by decide +kernel
theorem dX9_weaves_77 : decode cX9_weaves 77 = .ok (.iinc 5 1, 3) := by decide +kernel
theorem dX9_weaves_80 : decode cX9_weaves 80 = .ok (.goto (-25), 3) := by decide +kernel
theorem dX9_weaves_83 : decode cX9_weaves 83 = .ok (.return_, 1) := by decide +kernel
theorem dX9_weaves_84 : decode cX9_weaves 84 = .ok (.aload_n 0, 1) := by decide +kernel
theorem dX9_weaves_85 : decode cX9_weaves 85 = .ok (.getfield 9, 3) := by decide +kernel
theorem dX9_weaves_88 : decode cX9_weaves 88 = .ok (.bipush 24, 2) := by decide +kernel
theorem dX9_weaves_90 : decode cX9_weaves 90 = .ok (.iload_n 1, 1) := by decide +kernel
theorem dX9_weaves_91 : decode cX9_weaves 91 = .ok (.iadd, 1) := by decide +kernel
theorem dX9_weaves_92 : decode cX9_weaves 92 = .ok (.iaload, 1) := by decide +kernel
theorem dX9_weaves_93 : decode cX9_weaves 93 = .ok (.istore 5, 2) := by decide +kernel
theorem dX9_weaves_95 : decode cX9_weaves 95 = .ok (.aload_n 0, 1) := by decide +kernel
theorem dX9_weaves_96 : decode cX9_weaves 96 = .ok (.getfield 9, 3) := by decide +kernel
theorem dX9_weaves_99 : decode cX9_weaves 99 = .ok (.bipush 24, 2) := by decide +kernel
theorem dX9_weaves_101 : decode cX9_weaves 101 = .ok (.iload_n 1, 1) := by decide +kernel
theorem dX9_weaves_102 : decode cX9_weaves 102 = .ok (.iadd, 1) := by decide +kernel
theorem dX9_weaves_103 : decode cX9_weaves 103 = .ok (.iconst 1, 1) := by decide +kernel
theorem dX9_weaves_104 : decode cX9_weaves 104 = .ok (.iadd, 1) := by decide +kernel
theorem dX9_weaves_105 : decode cX9_weaves 105 = .ok (.iaload, 1) := by decide +kernel
theorem dX9_weaves_106 : decode cX9_weaves 106 = .ok (.istore 6, 2) := by decide +kernel
theorem dX9_weaves_108 : decode cX9_weaves 108 = .ok (.aload_n 0, 1) := by decide +kernel
theorem dX9_weaves_109 : decode cX9_weaves 109 = .ok (.getfield 9, 3) := by decide +kernel
theorem dX9_weaves_112 : decode cX9_weaves 112 = .ok (.bipush 12, 2) := by decide +kernel
theorem dX9_weaves_114 : decode cX9_weaves 114 = .ok (.iload_n 1, 1) := by decide +kernel
theorem dX9_weaves_115 : decode cX9_weaves 115 = .ok (.iadd, 1) := by decide +kernel
theorem dX9_weaves_116 : decode cX9_weaves 116 = .ok (.iaload, 1) := by decide +kernel
theorem dX9_weaves_117 : decode cX9_weaves 117 = .ok (.istore 7, 2) := by decide +kernel
theorem dX9_weaves_119 : decode cX9_weaves 119 = .ok (.aload_n 0, 1) := by decide +kernel
theorem dX9_weaves_120 : decode cX9_weaves 120 = .ok (.getfield 9, 3) := by decide +kernel
theorem dX9_weaves_123 : decode cX9_weaves 123 = .ok (.bipush 18, 2) := by decide +kernel
theorem dX9_weaves_125 : decode cX9_weaves 125 = .ok (.iload_n 1, 1) := by decide +kernel
theorem dX9_weaves_126 : decode cX9_weaves 126 = .ok (.iadd, 1) := by decide +kernel
theorem dX9_weaves_127 : decode cX9_weaves 127 = .ok (.iaload, 1) := by decide +kernel
theorem dX9_weaves_128 : decode cX9_weaves 128 = .ok (.istore 8, 2) := by decide +kernel
theorem dX9_weaves_130 : decode cX9_weaves 130 = .ok (.iconst 0, 1) := by decide +kernel
theorem dX9_weaves_131 : decode cX9_weaves 131 = .ok (.istore 9, 2) := by decide +kernel
theorem dX9_weaves_133 : decode cX9_weaves 133 = .ok (.iload 9, 2) := by decide +kernel
theorem dX9_weaves_135 : decode cX9_weaves 135 = .ok (.iconst 2, 1) := by decide +kernel
theorem dX9_weaves_136 : decode cX9_weaves 136 = .ok (.if_icmp .ge 188, 3) := by decide +kernel
theorem dX9_weaves_139 : decode cX9_weaves 139 = .ok (.iload 9, 2) := by decide +kernel
theorem dX9_weaves_141 : decode cX9_weaves 141 = .ok (.ifCond .ne 19, 3) := by decide +kernel
theorem dX9_weaves_144 : decode cX9_weaves 144 = .ok (.iload_n 2, 1) := by decide +kernel
theorem dX9_weaves_145 : decode cX9_weaves 145 = .ok (.bipush 6, 2) := by decide +kernel
theorem dX9_weaves_147 : decode cX9_weaves 147 = .ok (.aload_n 0, 1) := by decide +kernel
theorem dX9_weaves_148 : decode cX9_weaves 148 = .ok (.getfield 168, 3) := by decide +kernel
theorem dX9_weaves_151 : decode cX9_weaves 151 = .ok (.invokestatic 177, 3) := by decide +kernel
theorem dX9_weaves_154 : decode cX9_weaves 154 = .ok (.if_icmp .ne 22, 3) := by decide +kernel
theorem dX9_weaves_157 : decode cX9_weaves 157 = .ok (.goto 161, 3) := by decide +kernel
theorem dX9_weaves_160 : decode cX9_weaves 160 = .ok (.iload_n 3, 1) := by decide +kernel
theorem dX9_weaves_161 : decode cX9_weaves 161 = .ok (.bipush 6, 2) := by decide +kernel
theorem dX9_weaves_163 : decode cX9_weaves 163 = .ok (.aload_n 0, 1) := by decide +kernel
theorem dX9_weaves_164 : decode cX9_weaves 164 = .ok (.getfield 171, 3) := by decide +kernel
theorem dX9_weaves_167 : decode cX9_weaves 167 = .ok (.invokestatic 177, 3) := by decide +kernel
theorem dX9_weaves_170 : decode cX9_weaves 170 = .ok (.if_icmp .ne 6, 3) := by decide +kernel
theorem dX9_weaves_173 : decode cX9_weaves 173 = .ok (.goto 145, 3) := by decide +kernel
theorem dX9_weaves_176 : decode cX9_weaves 176 = .ok (.iload 9, 2) := by decide +kernel
theorem dX9_weaves_178 : decode cX9_weaves 178 = .ok (.ifCond .ne 12, 3) := by decide +kernel
theorem dX9_weaves_181 : decode cX9_weaves 181 = .ok (.aload_n 0, 1) := by decide +kernel
theorem dX9_weaves_182 : decode cX9_weaves 182 = .ok (.getfield 30, 3) := by decide +kernel
theorem dX9_weaves_185 : decode cX9_weaves 185 = .ok (.iload_n 2, 1) := by decide +kernel
theorem dX9_weaves_186 : decode cX9_weaves 186 = .ok (.iaload, 1) := by decide +kernel
theorem dX9_weaves_187 : decode cX9_weaves 187 = .ok (.goto 9, 3) := by decide +kernel
theorem dX9_weaves_190 : decode cX9_weaves 190 = .ok (.aload_n 0, 1) := by decide +kernel
theorem dX9_weaves_191 : decode cX9_weaves 191 = .ok (.getfield 33, 3) := by decide +kernel
theorem dX9_weaves_194 : decode cX9_weaves 194 = .ok (.iload_n 3, 1) := by decide +kernel
theorem dX9_weaves_195 : decode cX9_weaves 195 = .ok (.iaload, 1) := by decide +kernel
theorem dX9_weaves_196 : decode cX9_weaves 196 = .ok (.istore 10, 2) := by decide +kernel
theorem dX9_weaves_198 : decode cX9_weaves 198 = .ok (.aload_n 0, 1) := by decide +kernel
theorem dX9_weaves_199 : decode cX9_weaves 199 = .ok (.iload_n 1, 1) := by decide +kernel
theorem dX9_weaves_200 : decode cX9_weaves 200 = .ok (.iload 9, 2) := by decide +kernel
theorem dX9_weaves_202 : decode cX9_weaves 202 = .ok (.ifCond .ne 7, 3) := by decide +kernel
theorem dX9_weaves_205 : decode cX9_weaves 205 = .ok (.iconst 1, 1) := by decide +kernel
theorem dX9_weaves_206 : decode cX9_weaves 206 = .ok (.goto 4, 3) := by decide +kernel
theorem dX9_weaves_209 : decode cX9_weaves 209 = .ok (.iconst 0, 1) := by decide +kernel
theorem dX9_weaves_210 : decode cX9_weaves 210 = .ok (.aload_n 0, 1) := by decide +kernel
theorem dX9_weaves_211 : decode cX9_weaves 211 = .ok (.getfield 9, 3) := by decide +kernel
theorem dX9_weaves_214 : decode cX9_weaves 214 = .ok (.bipush 66, 2) := by decide +kernel
theorem dX9_weaves_216 : decode cX9_weaves 216 = .ok (.iload 10, 2) := by decide +kernel
theorem dX9_weaves_218 : decode cX9_weaves 218 = .ok (.iadd, 1) := by decide +kernel
theorem dX9_weaves_219 : decode cX9_weaves 219 = .ok (.iaload, 1) := by decide +kernel
theorem dX9_weaves_220 : decode cX9_weaves 220 = .ok (.invokevirtual 140, 3) := by decide +kernel
theorem dX9_weaves_223 : decode cX9_weaves 223 = .ok (.ifCond .eq 49, 3) := by decide +kernel
theorem dX9_weaves_226 : decode cX9_weaves 226 = .ok (.aload_n 0, 1) := by decide +kernel
theorem dX9_weaves_227 : decode cX9_weaves 227 = .ok (.getfield 36, 3) := by decide +kernel
theorem dX9_weaves_230 : decode cX9_weaves 230 = .ok (.iload_n 2, 1) := by decide +kernel
theorem dX9_weaves_231 : decode cX9_weaves 231 = .ok (.iload_n 3, 1) := by decide +kernel
theorem dX9_weaves_232 : decode cX9_weaves 232 = .ok (.iadd, 1) := by decide +kernel
theorem dX9_weaves_233 : decode cX9_weaves 233 = .ok (.iload 10, 2) := by decide +kernel
theorem dX9_weaves_235 : decode cX9_weaves 235 = .ok (.iastore, 1) := by decide +kernel
theorem dX9_weaves_236 : decode cX9_weaves 236 = .ok (.aload_n 0, 1) := by decide +kernel
theorem dX9_weaves_237 : decode cX9_weaves 237 = .ok (.iload_n 1, 1) := by decide +kernel
theorem dX9_weaves_238 : decode cX9_weaves 238 = .ok (.iload 9, 2) := by decide +kernel
theorem dX9_weaves_240 : decode cX9_weaves 240 = .ok (.ifCond .ne 9, 3) := by decide +kernel
theorem dX9_weaves_243 : decode cX9_weaves 243 = .ok (.iload_n 2, 1) := by decide +kernel
theorem dX9_weaves_244 : decode cX9_weaves 244 = .ok (.iconst 1, 1) := by decide +kernel
theorem dX9_weaves_245 : decode cX9_weaves 245 = .ok (.iadd, 1) := by decide +kernel
theorem dX9_weaves_246 : decode cX9_weaves 246 = .ok (.goto 4, 3) := by decide +kernel
theorem dX9_weaves_249 : decode cX9_weaves 249 = .ok (.iload_n 2, 1) := by decide +kernel
theorem dX9_weaves_250 : decode cX9_weaves 250 = .ok (.iload 9, 2) := by decide +kernel
theorem dX9_weaves_252 : decode cX9_weaves 252 = .ok (.ifCond .ne 7, 3) := by decide +kernel
theorem dX9_weaves_255 : decode cX9_weaves 255 = .ok (.iload_n 3, 1) := by decide +kernel
theorem dX9_weaves_256 : decode cX9_weaves 256 = .ok (.goto 6, 3) := by decide +kernel
theorem dX9_weaves_259 : decode cX9_weaves 259 = .ok (.iload_n 3, 1) := by decide +kernel
theorem dX9_weaves_260 : decode cX9_weaves 260 = .ok (.iconst 1, 1) := by decide +kernel
theorem dX9_weaves_261 : decode cX9_weaves 261 = .ok (.iadd, 1) := by decide +kernel
theorem dX9_weaves_262 : decode cX9_weaves 262 = .ok (.iload 4, 2) := by decide +kernel
theorem dX9_weaves_264 : decode cX9_weaves 264 = .ok (.aload_n 0, 1) := by decide +kernel
theorem dX9_weaves_265 : decode cX9_weaves 265 = .ok (.getfield 137, 3) := by decide +kernel
theorem dX9_weaves_268 : decode cX9_weaves 268 = .ok (.iadd, 1) := by decide +kernel
theorem dX9_weaves_269 : decode cX9_weaves 269 = .ok (.invokevirtual 188, 3) := by decide +kernel
theorem dX9_weaves_272 : decode cX9_weaves 272 = .ok (.aload_n 0, 1) := by decide +kernel
theorem dX9_weaves_273 : decode cX9_weaves 273 = .ok (.getfield 9, 3) := by decide +kernel
theorem dX9_weaves_276 : decode cX9_weaves 276 = .ok (.bipush 24, 2) := by decide +kernel
theorem dX9_weaves_278 : decode cX9_weaves 278 = .ok (.iload_n 1, 1) := by decide +kernel
theorem dX9_weaves_279 : decode cX9_weaves 279 = .ok (.iadd, 1) := by decide +kernel
theorem dX9_weaves_280 : decode cX9_weaves 280 = .ok (.iload 5, 2) := by decide +kernel
theorem dX9_weaves_282 : decode cX9_weaves 282 = .ok (.iastore, 1) := by decide +kernel
theorem dX9_weaves_283 : decode cX9_weaves 283 = .ok (.aload_n 0, 1) := by decide +kernel
theorem dX9_weaves_284 : decode cX9_weaves 284 = .ok (.getfield 9, 3) := by decide +kernel
theorem dX9_weaves_287 : decode cX9_weaves 287 = .ok (.bipush 24, 2) := by decide +kernel
theorem dX9_weaves_289 : decode cX9_weaves 289 = .ok (.iload_n 1, 1) := by decide +kernel
theorem dX9_weaves_290 : decode cX9_weaves 290 = .ok (.iadd, 1) := by decide +kernel
theorem dX9_weaves_291 : decode cX9_weaves 291 = .ok (.iconst 1, 1) := by decide +kernel
theorem dX9_weaves_292 : decode cX9_weaves 292 = .ok (.iadd, 1) := by decide +kernel
theorem dX9_weaves_293 : decode cX9_weaves 293 = .ok (.iload 6, 2) := by decide +kernel
theorem dX9_weaves_295 : decode cX9_weaves 295 = .ok (.iastore, 1) := by decide +kernel
theorem dX9_weaves_296 : decode cX9_weaves 296 = .ok (.aload_n 0, 1) := by decide +kernel
theorem dX9_weaves_297 : decode cX9_weaves 297 = .ok (.getfield 9, 3) := by decide +kernel
theorem dX9_weaves_300 : decode cX9_weaves 300 = .ok (.bipush 12, 2) := by decide +kernel
theorem dX9_weaves_302 : decode cX9_weaves 302 = .ok (.iload_n 1, 1) := by decide +kernel
theorem dX9_weaves_303 : decode cX9_weaves 303 = .ok (.iadd, 1) := by decide +kernel
theorem dX9_weaves_304 : decode cX9_weaves 304 = .ok (.iload 7, 2) := by decide +kernel
theorem dX9_weaves_306 : decode cX9_weaves 306 = .ok (.iastore, 1) := by decide +kernel
theorem dX9_weaves_307 : decode cX9_weaves 307 = .ok (.aload_n 0, 1) := by decide +kernel
theorem dX9_weaves_308 : decode cX9_weaves 308 = .ok (.getfield 9, 3) := by decide +kernel
theorem dX9_weaves_311 : decode cX9_weaves 311 = .ok (.bipush 18, 2) := by decide +kernel
theorem dX9_weaves_313 : decode cX9_weaves 313 = .ok (.iload_n 1, 1) := by decide +kernel
theorem dX9_weaves_314 : decode cX9_weaves 314 = .ok (.iadd, 1) := by decide +kernel
theorem dX9_weaves_315 : decode cX9_weaves 315 = .ok (.iload 8, 2) := by decide +kernel
theorem dX9_weaves_317 : decode cX9_weaves 317 = .ok (.iastore, 1) := by decide +kernel
theorem dX9_weaves_318 : decode cX9_weaves 318 = .ok (.iinc 9 1, 3) := by decide +kernel
theorem dX9_weaves_321 : decode cX9_weaves 321 = .ok (.goto (-188), 3) := by decide +kernel
theorem dX9_weaves_324 : decode cX9_weaves 324 = .ok (.return_, 1) := by decide +kernel
theorem dX9_weavesAll_0 : decode cX9_weavesAll 0 = .ok (.aload_n 0, 1) := by decide +kernel
theorem dX9_weavesAll_1 : decode cX9_weavesAll 1 = .ok (.iload_n 1, 1) := by decide +kernel
theorem dX9_weavesAll_2 : decode cX9_weavesAll 2 = .ok (.invokevirtual 174, 3) := by decide +kernel
theorem dX9_weavesAll_5 : decode cX9_weavesAll 5 = .ok (.aload_n 0, 1) := by decide +kernel
theorem dX9_weavesAll_6 : decode cX9_weavesAll 6 = .ok (.iconst 0, 1) := by decide +kernel
theorem dX9_weavesAll_7 : decode cX9_weavesAll 7 = .ok (.putfield 182, 3) := by decide +kernel
theorem dX9_weavesAll_10 : decode cX9_weavesAll 10 = .ok (.aload_n 0, 1) := by decide +kernel
theorem dX9_weavesAll_11 : decode cX9_weavesAll 11 = .ok (.ldc 192, 2) := by decide +kernel
theorem dX9_weavesAll_13 : decode cX9_weavesAll 13 = .ok (.putfield 185, 3) := by decide +kernel
theorem dX9_weavesAll_16 : decode cX9_weavesAll 16 = .ok (.aload_n 0, 1) := by decide +kernel
theorem dX9_weavesAll_17 : decode cX9_weavesAll 17 = .ok (.iload_n 1, 1) := by decide +kernel
theorem dX9_weavesAll_18 : decode cX9_weavesAll 18 = .ok (.iconst 0, 1) := by decide +kernel
theorem dX9_weavesAll_19 : decode cX9_weavesAll 19 = .ok (.iconst 0, 1) := by decide +kernel
theorem dX9_weavesAll_20 : decode cX9_weavesAll 20 = .ok (.iconst 0, 1) := by decide +kernel
theorem dX9_weavesAll_21 : decode cX9_weavesAll 21 = .ok (.invokevirtual 188, 3) := by decide +kernel
theorem dX9_weavesAll_24 : decode cX9_weavesAll 24 = .ok (.return_, 1) := by decide +kernel
theorem dX9_orders_0 : decode cX9_orders 0 = .ok (.aload_n 0, 1) := by decide +kernel
theorem dX9_orders_1 : decode cX9_orders 1 = .ok (.iload_n 1, 1) := by decide +kernel
theorem dX9_orders_2 : decode cX9_orders 2 = .ok (.invokevirtual 50, 3) := by decide +kernel
theorem dX9_orders_5 : decode cX9_orders 5 = .ok (.ifCond .ne 5, 3) := by decide +kernel
theorem dX9_orders_8 : decode cX9_orders 8 = .ok (.iconst (-1), 1) := by decide +kernel
theorem dX9_orders_9 : decode cX9_orders 9 = .ok (.ireturn, 1) := by decide +kernel
theorem dX9_orders_10 : decode cX9_orders 10 = .ok (.aload_n 0, 1) := by decide +kernel
theorem dX9_orders_11 : decode cX9_orders 11 = .ok (.iload_n 1, 1) := by decide +kernel
theorem dX9_orders_12 : decode cX9_orders 12 = .ok (.invokevirtual 193, 3) := by decide +kernel
theorem dX9_orders_15 : decode cX9_orders 15 = .ok (.aload_n 0, 1) := by decide +kernel
theorem dX9_orders_16 : decode cX9_orders 16 = .ok (.getfield 182, 3) := by decide +kernel
theorem dX9_orders_19 : decode cX9_orders 19 = .ok (.ireturn, 1) := by decide +kernel
theorem dX9_best_0 : decode cX9_best 0 = .ok (.aload_n 0, 1) := by decide +kernel
theorem dX9_best_1 : decode cX9_best 1 = .ok (.iload_n 1, 1) := by decide +kernel
theorem dX9_best_2 : decode cX9_best 2 = .ok (.invokevirtual 50, 3) := by decide +kernel
theorem dX9_best_5 : decode cX9_best 5 = .ok (.ifCond .eq 8, 3) := by decide +kernel
theorem dX9_best_8 : decode cX9_best 8 = .ok (.iload_n 2, 1) := by decide +kernel
theorem dX9_best_9 : decode cX9_best 9 = .ok (.iconst (-1), 1) := by decide +kernel
theorem dX9_best_10 : decode cX9_best 10 = .ok (.if_icmp .ge 6, 3) := by decide +kernel
theorem dX9_best_13 : decode cX9_best 13 = .ok (.ldc 157, 2) := by decide +kernel
theorem dX9_best_15 : decode cX9_best 15 = .ok (.ireturn, 1) := by decide +kernel
theorem dX9_best_16 : decode cX9_best 16 = .ok (.aload_n 0, 1) := by decide +kernel
theorem dX9_best_17 : decode cX9_best 17 = .ok (.iload_n 1, 1) := by decide +kernel
theorem dX9_best_18 : decode cX9_best 18 = .ok (.invokevirtual 193, 3) := by decide +kernel
theorem dX9_best_21 : decode cX9_best 21 = .ok (.bipush 6, 2) := by decide +kernel
theorem dX9_best_23 : decode cX9_best 23 = .ok (.aload_n 0, 1) := by decide +kernel
theorem dX9_best_24 : decode cX9_best 24 = .ok (.getfield 168, 3) := by decide +kernel
theorem dX9_best_27 : decode cX9_best 27 = .ok (.invokestatic 177, 3) := by decide +kernel
theorem dX9_best_30 : decode cX9_best 30 = .ok (.bipush 6, 2) := by decide +kernel
theorem dX9_best_32 : decode cX9_best 32 = .ok (.aload_n 0, 1) := by decide +kernel
theorem dX9_best_33 : decode cX9_best 33 = .ok (.getfield 171, 3) := by decide +kernel
theorem dX9_best_36 : decode cX9_best 36 = .ok (.invokestatic 177, 3) := by decide +kernel
theorem dX9_best_39 : decode cX9_best 39 = .ok (.iadd, 1) := by decide +kernel
theorem dX9_best_40 : decode cX9_best 40 = .ok (.istore_n 3, 1) := by decide +kernel
theorem dX9_best_41 : decode cX9_best 41 = .ok (.aload_n 0, 1) := by decide +kernel
theorem dX9_best_42 : decode cX9_best 42 = .ok (.getfield 182, 3) := by decide +kernel
theorem dX9_best_45 : decode cX9_best 45 = .ok (.ifCond .eq 14, 3) := by decide +kernel
theorem dX9_best_48 : decode cX9_best 48 = .ok (.iload_n 2, 1) := by decide +kernel
theorem dX9_best_49 : decode cX9_best 49 = .ok (.iconst (-1), 1) := by decide +kernel
theorem dX9_best_50 : decode cX9_best 50 = .ok (.iload_n 3, 1) := by decide +kernel
theorem dX9_best_51 : decode cX9_best 51 = .ok (.iconst 1, 1) := by decide +kernel
theorem dX9_best_52 : decode cX9_best 52 = .ok (.isub, 1) := by decide +kernel
theorem dX9_best_53 : decode cX9_best 53 = .ok (.invokestatic 46, 3) := by decide +kernel
theorem dX9_best_56 : decode cX9_best 56 = .ok (.ifCond .ne 6, 3) := by decide +kernel
theorem dX9_best_59 : decode cX9_best 59 = .ok (.ldc 158, 2) := by decide +kernel
theorem dX9_best_61 : decode cX9_best 61 = .ok (.ireturn, 1) := by decide +kernel
theorem dX9_best_62 : decode cX9_best 62 = .ok (.iload_n 2, 1) := by decide +kernel
theorem dX9_best_63 : decode cX9_best 63 = .ok (.iconst (-1), 1) := by decide +kernel
theorem dX9_best_64 : decode cX9_best 64 = .ok (.if_icmp .ne 10, 3) := by decide +kernel
theorem dX9_best_67 : decode cX9_best 67 = .ok (.aload_n 0, 1) := by decide +kernel
theorem dX9_best_68 : decode cX9_best 68 = .ok (.getfield 185, 3) := by decide +kernel
theorem dX9_best_71 : decode cX9_best 71 = .ok (.goto 9, 3) := by decide +kernel
theorem dX9_best_74 : decode cX9_best 74 = .ok (.aload_n 0, 1) := by decide +kernel
theorem dX9_best_75 : decode cX9_best 75 = .ok (.getfield 39, 3) := by decide +kernel
theorem dX9_best_78 : decode cX9_best 78 = .ok (.iload_n 2, 1) := by decide +kernel
theorem dX9_best_79 : decode cX9_best 79 = .ok (.iaload, 1) := by decide +kernel
theorem dX9_best_80 : decode cX9_best 80 = .ok (.ireturn, 1) := by decide +kernel
theorem dX9_isFromBelow_0 : decode cX9_isFromBelow 0 = .ok (.iload_n 3, 1) := by decide +kernel
theorem dX9_isFromBelow_1 : decode cX9_isFromBelow 1 = .ok (.aload_n 0, 1) := by decide +kernel
theorem dX9_isFromBelow_2 : decode cX9_isFromBelow 2 = .ok (.getfield 168, 3) := by decide +kernel
theorem dX9_isFromBelow_5 : decode cX9_isFromBelow 5 = .ok (.if_icmp .eq 12, 3) := by decide +kernel
theorem dX9_isFromBelow_8 : decode cX9_isFromBelow 8 = .ok (.iload 4, 2) := by decide +kernel
theorem dX9_isFromBelow_10 : decode cX9_isFromBelow 10 = .ok (.aload_n 0, 1) := by decide +kernel
theorem dX9_isFromBelow_11 : decode cX9_isFromBelow 11 = .ok (.getfield 171, 3) := by decide +kernel
theorem dX9_isFromBelow_14 : decode cX9_isFromBelow 14 = .ok (.if_icmp .ne 17, 3) := by decide +kernel
theorem dX9_isFromBelow_17 : decode cX9_isFromBelow 17 = .ok (.iload_n 3, 1) := by decide +kernel
theorem dX9_isFromBelow_18 : decode cX9_isFromBelow 18 = .ok (.aload_n 0, 1) := by decide +kernel
theorem dX9_isFromBelow_19 : decode cX9_isFromBelow 19 = .ok (.getfield 168, 3) := by decide +kernel
theorem dX9_isFromBelow_22 : decode cX9_isFromBelow 22 = .ok (.if_icmp .ge 7, 3) := by decide +kernel
theorem dX9_isFromBelow_25 : decode cX9_isFromBelow 25 = .ok (.iconst 1, 1) := by decide +kernel
theorem dX9_isFromBelow_26 : decode cX9_isFromBelow 26 = .ok (.goto 4, 3) := by decide +kernel
theorem dX9_isFromBelow_29 : decode cX9_isFromBelow 29 = .ok (.iconst 0, 1) := by decide +kernel
theorem dX9_isFromBelow_30 : decode cX9_isFromBelow 30 = .ok (.ireturn, 1) := by decide +kernel
theorem dX9_isFromBelow_31 : decode cX9_isFromBelow 31 = .ok (.iload_n 2, 1) := by decide +kernel
theorem dX9_isFromBelow_32 : decode cX9_isFromBelow 32 = .ok (.tableswitch 129 0 2 #[28, 43, 127], 28) := by decide +kernel
theorem dX9_isFromBelow_60 : decode cX9_isFromBelow 60 = .ok (.iload_n 3, 1) := by decide +kernel
theorem dX9_isFromBelow_61 : decode cX9_isFromBelow 61 = .ok (.iload 4, 2) := by decide +kernel
theorem dX9_isFromBelow_63 : decode cX9_isFromBelow 63 = .ok (.iadd, 1) := by decide +kernel
theorem dX9_isFromBelow_64 : decode cX9_isFromBelow 64 = .ok (.iconst 2, 1) := by decide +kernel
theorem dX9_isFromBelow_65 : decode cX9_isFromBelow 65 = .ok (.irem, 1) := by decide +kernel
theorem dX9_isFromBelow_66 : decode cX9_isFromBelow 66 = .ok (.ifCond .ne 7, 3) := by decide +kernel
theorem dX9_isFromBelow_69 : decode cX9_isFromBelow 69 = .ok (.iconst 1, 1) := by decide +kernel
theorem dX9_isFromBelow_70 : decode cX9_isFromBelow 70 = .ok (.goto 4, 3) := by decide +kernel
theorem dX9_isFromBelow_73 : decode cX9_isFromBelow 73 = .ok (.iconst 0, 1) := by decide +kernel
theorem dX9_isFromBelow_74 : decode cX9_isFromBelow 74 = .ok (.ireturn, 1) := by decide +kernel
theorem dX9_isFromBelow_75 : decode cX9_isFromBelow 75 = .ok (.aload_n 0, 1) := by decide +kernel
theorem dX9_isFromBelow_76 : decode cX9_isFromBelow 76 = .ok (.getfield 30, 3) := by decide +kernel
theorem dX9_isFromBelow_79 : decode cX9_isFromBelow 79 = .ok (.iload_n 3, 1) := by decide +kernel
theorem dX9_isFromBelow_80 : decode cX9_isFromBelow 80 = .ok (.iaload, 1) := by decide +kernel
theorem dX9_isFromBelow_81 : decode cX9_isFromBelow 81 = .ok (.istore 5, 2) := by decide +kernel
theorem dX9_isFromBelow_83 : decode cX9_isFromBelow 83 = .ok (.aload_n 0, 1) := by decide +kernel
theorem dX9_isFromBelow_84 : decode cX9_isFromBelow 84 = .ok (.getfield 33, 3) := by decide +kernel
theorem dX9_isFromBelow_87 : decode cX9_isFromBelow 87 = .ok (.iload 4, 2) := by decide +kernel
theorem dX9_isFromBelow_89 : decode cX9_isFromBelow 89 = .ok (.iaload, 1) := by decide +kernel
theorem dX9_isFromBelow_90 : decode cX9_isFromBelow 90 = .ok (.istore 6, 2) := by decide +kernel
theorem dX9_isFromBelow_92 : decode cX9_isFromBelow 92 = .ok (.aload_n 0, 1) := by decide +kernel
theorem dX9_isFromBelow_93 : decode cX9_isFromBelow 93 = .ok (.getfield 9, 3) := by decide +kernel
theorem dX9_isFromBelow_96 : decode cX9_isFromBelow 96 = .ok (.bipush 78, 2) := by decide +kernel
theorem dX9_isFromBelow_98 : decode cX9_isFromBelow 98 = .ok (.iload 5, 2) := by decide +kernel
theorem dX9_isFromBelow_100 : decode cX9_isFromBelow 100 = .ok (.iadd, 1) := by decide +kernel
theorem dX9_isFromBelow_101 : decode cX9_isFromBelow 101 = .ok (.iaload, 1) := by decide +kernel
theorem dX9_isFromBelow_102 : decode cX9_isFromBelow 102 = .ok (.aload_n 0, 1) := by decide +kernel
theorem dX9_isFromBelow_103 : decode cX9_isFromBelow 103 = .ok (.getfield 9, 3) := by decide +kernel
theorem dX9_isFromBelow_106 : decode cX9_isFromBelow 106 = .ok (.bipush 78, 2) := by decide +kernel
theorem dX9_isFromBelow_108 : decode cX9_isFromBelow 108 = .ok (.iload 6, 2) := by decide +kernel
theorem dX9_isFromBelow_110 : decode cX9_isFromBelow 110 = .ok (.iadd, 1) := by decide +kernel
theorem dX9_isFromBelow_111 : decode cX9_isFromBelow 111 = .ok (.iaload, 1) := by decide +kernel
theorem dX9_isFromBelow_112 : decode cX9_isFromBelow 112 = .ok (.if_icmp .eq 34, 3) := by decide +kernel
theorem dX9_isFromBelow_115 : decode cX9_isFromBelow 115 = .ok (.aload_n 0, 1) := by decide +kernel
theorem dX9_isFromBelow_116 : decode cX9_isFromBelow 116 = .ok (.getfield 9, 3) := by decide +kernel
theorem dX9_isFromBelow_119 : decode cX9_isFromBelow 119 = .ok (.bipush 78, 2) := by decide +kernel
theorem dX9_isFromBelow_121 : decode cX9_isFromBelow 121 = .ok (.iload 5, 2) := by decide +kernel
theorem dX9_isFromBelow_123 : decode cX9_isFromBelow 123 = .ok (.iadd, 1) := by decide +kernel
theorem dX9_isFromBelow_124 : decode cX9_isFromBelow 124 = .ok (.iaload, 1) := by decide +kernel
theorem dX9_isFromBelow_125 : decode cX9_isFromBelow 125 = .ok (.aload_n 0, 1) := by decide +kernel
theorem dX9_isFromBelow_126 : decode cX9_isFromBelow 126 = .ok (.getfield 9, 3) := by decide +kernel
theorem dX9_isFromBelow_129 : decode cX9_isFromBelow 129 = .ok (.bipush 78, 2) := by decide +kernel
theorem dX9_isFromBelow_131 : decode cX9_isFromBelow 131 = .ok (.iload 6, 2) := by decide +kernel
theorem dX9_isFromBelow_133 : decode cX9_isFromBelow 133 = .ok (.iadd, 1) := by decide +kernel
theorem dX9_isFromBelow_134 : decode cX9_isFromBelow 134 = .ok (.iaload, 1) := by decide +kernel
theorem dX9_isFromBelow_135 : decode cX9_isFromBelow 135 = .ok (.if_icmp .le 7, 3) := by decide +kernel
theorem dX9_isFromBelow_138 : decode cX9_isFromBelow 138 = .ok (.iconst 1, 1) := by decide +kernel
theorem dX9_isFromBelow_139 : decode cX9_isFromBelow 139 = .ok (.goto 19, 3) := by decide +kernel
theorem dX9_isFromBelow_142 : decode cX9_isFromBelow 142 = .ok (.iconst 0, 1) := by decide +kernel
theorem dX9_isFromBelow_143 : decode cX9_isFromBelow 143 = .ok (.goto 15, 3) := by decide +kernel
theorem dX9_isFromBelow_146 : decode cX9_isFromBelow 146 = .ok (.iload 5, 2) := by decide +kernel
theorem dX9_isFromBelow_148 : decode cX9_isFromBelow 148 = .ok (.iload 6, 2) := by decide +kernel
theorem dX9_isFromBelow_150 : decode cX9_isFromBelow 150 = .ok (.if_icmp .ge 7, 3) := by decide +kernel
theorem dX9_isFromBelow_153 : decode cX9_isFromBelow 153 = .ok (.iconst 1, 1) := by decide +kernel
theorem dX9_isFromBelow_154 : decode cX9_isFromBelow 154 = .ok (.goto 4, 3) := by decide +kernel
theorem dX9_isFromBelow_157 : decode cX9_isFromBelow 157 = .ok (.iconst 0, 1) := by decide +kernel
theorem dX9_isFromBelow_158 : decode cX9_isFromBelow 158 = .ok (.ireturn, 1) := by decide +kernel
theorem dX9_isFromBelow_159 : decode cX9_isFromBelow 159 = .ok (.iconst 1, 1) := by decide +kernel
theorem dX9_isFromBelow_160 : decode cX9_isFromBelow 160 = .ok (.ireturn, 1) := by decide +kernel
theorem dX9_isFromBelow_161 : decode cX9_isFromBelow 161 = .ok (.aload_n 0, 1) := by decide +kernel
theorem dX9_isFromBelow_162 : decode cX9_isFromBelow 162 = .ok (.getfield 9, 3) := by decide +kernel
theorem dX9_isFromBelow_165 : decode cX9_isFromBelow 165 = .ok (.bipush 18, 2) := by decide +kernel
theorem dX9_isFromBelow_167 : decode cX9_isFromBelow 167 = .ok (.iload_n 1, 1) := by decide +kernel
theorem dX9_isFromBelow_168 : decode cX9_isFromBelow 168 = .ok (.iadd, 1) := by decide +kernel
theorem dX9_isFromBelow_169 : decode cX9_isFromBelow 169 = .ok (.iaload, 1) := by decide +kernel
theorem dX9_isFromBelow_170 : decode cX9_isFromBelow 170 = .ok (.ifCond .ne 7, 3) := by decide +kernel
theorem dX9_isFromBelow_173 : decode cX9_isFromBelow 173 = .ok (.iconst 1, 1) := by decide +kernel
theorem dX9_isFromBelow_174 : decode cX9_isFromBelow 174 = .ok (.goto 4, 3) := by decide +kernel
theorem dX9_isFromBelow_177 : decode cX9_isFromBelow 177 = .ok (.iconst 0, 1) := by decide +kernel
theorem dX9_isFromBelow_178 : decode cX9_isFromBelow 178 = .ok (.ireturn, 1) := by decide +kernel
theorem dX9_runs_0 : decode cX9_runs 0 = .ok (.aload_n 0, 1) := by decide +kernel
theorem dX9_runs_1 : decode cX9_runs 1 = .ok (.iload_n 1, 1) := by decide +kernel
theorem dX9_runs_2 : decode cX9_runs 2 = .ok (.invokevirtual 174, 3) := by decide +kernel
theorem dX9_runs_5 : decode cX9_runs 5 = .ok (.aload_n 0, 1) := by decide +kernel
theorem dX9_runs_6 : decode cX9_runs 6 = .ok (.iconst 0, 1) := by decide +kernel
theorem dX9_runs_7 : decode cX9_runs 7 = .ok (.putfield 196, 3) := by decide +kernel
theorem dX9_runs_10 : decode cX9_runs 10 = .ok (.aload_n 0, 1) := by decide +kernel
theorem dX9_runs_11 : decode cX9_runs 11 = .ok (.iconst 0, 1) := by decide +kernel
theorem dX9_runs_12 : decode cX9_runs 12 = .ok (.putfield 199, 3) := by decide +kernel
theorem dX9_runs_15 : decode cX9_runs 15 = .ok (.iconst 0, 1) := by decide +kernel
theorem dX9_runs_16 : decode cX9_runs 16 = .ok (.istore 4, 2) := by decide +kernel
theorem dX9_runs_18 : decode cX9_runs 18 = .ok (.iconst 0, 1) := by decide +kernel
theorem dX9_runs_19 : decode cX9_runs 19 = .ok (.istore 5, 2) := by decide +kernel
theorem dX9_runs_21 : decode cX9_runs 21 = .ok (.iload 4, 2) := by decide +kernel
theorem dX9_runs_23 : decode cX9_runs 23 = .ok (.aload_n 0, 1) := by decide +kernel
theorem dX9_runs_24 : decode cX9_runs 24 = .ok (.getfield 168, 3) := by decide +kernel
theorem dX9_runs_27 : decode cX9_runs 27 = .ok (.if_icmp .lt 12, 3) := by decide +kernel
theorem dX9_runs_30 : decode cX9_runs 30 = .ok (.iload 5, 2) := by decide +kernel
theorem dX9_runs_32 : decode cX9_runs 32 = .ok (.aload_n 0, 1) := by decide +kernel
theorem dX9_runs_33 : decode cX9_runs 33 = .ok (.getfield 171, 3) := by decide +kernel
theorem dX9_runs_36 : decode cX9_runs 36 = .ok (.if_icmp .ge 86, 3) := by decide +kernel
theorem dX9_runs_39 : decode cX9_runs 39 = .ok (.aload_n 0, 1) := by decide +kernel
theorem dX9_runs_40 : decode cX9_runs 40 = .ok (.iload_n 1, 1) := by decide +kernel
theorem dX9_runs_41 : decode cX9_runs 41 = .ok (.iload_n 2, 1) := by decide +kernel
theorem dX9_runs_42 : decode cX9_runs 42 = .ok (.iload 4, 2) := by decide +kernel
theorem dX9_runs_44 : decode cX9_runs 44 = .ok (.iload 5, 2) := by decide +kernel
theorem dX9_runs_46 : decode cX9_runs 46 = .ok (.invokevirtual 202, 3) := by decide +kernel
theorem dX9_runs_49 : decode cX9_runs 49 = .ok (.istore 6, 2) := by decide +kernel
theorem dX9_runs_51 : decode cX9_runs 51 = .ok (.aload_n 0, 1) := by decide +kernel
theorem dX9_runs_52 : decode cX9_runs 52 = .ok (.iload 6, 2) := by decide +kernel
theorem dX9_runs_54 : decode cX9_runs 54 = .ok (.ifCond .eq 13, 3) := by decide +kernel
theorem dX9_runs_57 : decode cX9_runs 57 = .ok (.aload_n 0, 1) := by decide +kernel
theorem dX9_runs_58 : decode cX9_runs 58 = .ok (.getfield 30, 3) := by decide +kernel
theorem dX9_runs_61 : decode cX9_runs 61 = .ok (.iload 4, 2) := by decide +kernel
theorem dX9_runs_63 : decode cX9_runs 63 = .ok (.iaload, 1) := by decide +kernel
theorem dX9_runs_64 : decode cX9_runs 64 = .ok (.goto 10, 3) := by decide +kernel
theorem dX9_runs_67 : decode cX9_runs 67 = .ok (.aload_n 0, 1) := by decide +kernel
theorem dX9_runs_68 : decode cX9_runs 68 = .ok (.getfield 33, 3) := by decide +kernel
theorem dX9_runs_71 : decode cX9_runs 71 = .ok (.iload 5, 2) := by decide +kernel
theorem dX9_runs_73 : decode cX9_runs 73 = .ok (.iaload, 1) := by decide +kernel
theorem dX9_runs_74 : decode cX9_runs 74 = .ok (.iload_n 3, 1) := by decide +kernel
theorem dX9_runs_75 : decode cX9_runs 75 = .ok (.invokevirtual 159, 3) := by decide +kernel
theorem dX9_runs_78 : decode cX9_runs 78 = .ok (.ifCond .ne 4, 3) := by decide +kernel
theorem dX9_runs_81 : decode cX9_runs 81 = .ok (.return_, 1) := by decide +kernel
theorem dX9_runs_82 : decode cX9_runs 82 = .ok (.iload 6, 2) := by decide +kernel
theorem dX9_runs_84 : decode cX9_runs 84 = .ok (.ifCond .eq 9, 3) := by decide +kernel
theorem dX9_runs_87 : decode cX9_runs 87 = .ok (.iinc 4 1, 3) := by decide +kernel
theorem dX9_runs_90 : decode cX9_runs 90 = .ok (.goto 6, 3) := by decide +kernel
theorem dX9_runs_93 : decode cX9_runs 93 = .ok (.iinc 5 1, 3) := by decide +kernel
theorem dX9_runs_96 : decode cX9_runs 96 = .ok (.aload_n 0, 1) := by decide +kernel
theorem dX9_runs_97 : decode cX9_runs 97 = .ok (.dup, 1) := by decide +kernel
theorem dX9_runs_98 : decode cX9_runs 98 = .ok (.getfield 196, 3) := by decide +kernel
theorem dX9_runs_101 : decode cX9_runs 101 = .ok (.iconst 1, 1) := by decide +kernel
theorem dX9_runs_102 : decode cX9_runs 102 = .ok (.iadd, 1) := by decide +kernel
theorem dX9_runs_103 : decode cX9_runs 103 = .ok (.putfield 196, 3) := by decide +kernel
theorem dX9_runs_106 : decode cX9_runs 106 = .ok (.aload_n 0, 1) := by decide +kernel
theorem dX9_runs_107 : decode cX9_runs 107 = .ok (.dup, 1) := by decide +kernel
theorem dX9_runs_108 : decode cX9_runs 108 = .ok (.getfield 199, 3) := by decide +kernel
theorem dX9_runs_111 : decode cX9_runs 111 = .ok (.aload_n 0, 1) := by decide +kernel
theorem dX9_runs_112 : decode cX9_runs 112 = .ok (.getfield 137, 3) := by decide +kernel
theorem dX9_runs_115 : decode cX9_runs 115 = .ok (.iadd, 1) := by decide +kernel
theorem dX9_runs_116 : decode cX9_runs 116 = .ok (.putfield 199, 3) := by decide +kernel
theorem dX9_runs_119 : decode cX9_runs 119 = .ok (.goto (-98), 3) := by decide +kernel
theorem dX9_runs_122 : decode cX9_runs 122 = .ok (.return_, 1) := by decide +kernel
theorem dX9_ruled_0 : decode cX9_ruled 0 = .ok (.aload_n 0, 1) := by decide +kernel
theorem dX9_ruled_1 : decode cX9_ruled 1 = .ok (.iload_n 1, 1) := by decide +kernel
theorem dX9_ruled_2 : decode cX9_ruled 2 = .ok (.invokevirtual 50, 3) := by decide +kernel
theorem dX9_ruled_5 : decode cX9_ruled 5 = .ok (.ifCond .eq 21, 3) := by decide +kernel
theorem dX9_ruled_8 : decode cX9_ruled 8 = .ok (.iload_n 2, 1) := by decide +kernel
theorem dX9_ruled_9 : decode cX9_ruled 9 = .ok (.iconst 0, 1) := by decide +kernel
theorem dX9_ruled_10 : decode cX9_ruled 10 = .ok (.iconst 3, 1) := by decide +kernel
theorem dX9_ruled_11 : decode cX9_ruled 11 = .ok (.invokestatic 46, 3) := by decide +kernel
theorem dX9_ruled_14 : decode cX9_ruled 14 = .ok (.ifCond .eq 12, 3) := by decide +kernel
theorem dX9_ruled_17 : decode cX9_ruled 17 = .ok (.iload_n 3, 1) := by decide +kernel
theorem dX9_ruled_18 : decode cX9_ruled 18 = .ok (.iconst 0, 1) := by decide +kernel
theorem dX9_ruled_19 : decode cX9_ruled 19 = .ok (.iconst 2, 1) := by decide +kernel
theorem dX9_ruled_20 : decode cX9_ruled 20 = .ok (.invokestatic 46, 3) := by decide +kernel
theorem dX9_ruled_23 : decode cX9_ruled 23 = .ok (.ifCond .ne 6, 3) := by decide +kernel
theorem dX9_ruled_26 : decode cX9_ruled 26 = .ok (.ldc 157, 2) := by decide +kernel
theorem dX9_ruled_28 : decode cX9_ruled 28 = .ok (.ireturn, 1) := by decide +kernel
theorem dX9_ruled_29 : decode cX9_ruled 29 = .ok (.aload_n 0, 1) := by decide +kernel
theorem dX9_ruled_30 : decode cX9_ruled 30 = .ok (.getfield 9, 3) := by decide +kernel
theorem dX9_ruled_33 : decode cX9_ruled 33 = .ok (.aload_n 0, 1) := by decide +kernel
theorem dX9_ruled_34 : decode cX9_ruled 34 = .ok (.getfield 18, 3) := by decide +kernel
theorem dX9_ruled_37 : decode cX9_ruled 37 = .ok (.invokestatic 105, 3) := by decide +kernel
theorem dX9_ruled_40 : decode cX9_ruled 40 = .ok (.aload_n 0, 1) := by decide +kernel
theorem dX9_ruled_41 : decode cX9_ruled 41 = .ok (.iload_n 1, 1) := by decide +kernel
theorem dX9_ruled_42 : decode cX9_ruled 42 = .ok (.iload_n 2, 1) := by decide +kernel
theorem dX9_ruled_43 : decode cX9_ruled 43 = .ok (.iconst 0, 1) := by decide +kernel
theorem dX9_ruled_44 : decode cX9_ruled 44 = .ok (.invokevirtual 205, 3) := by decide +kernel
theorem dX9_ruled_47 : decode cX9_ruled 47 = .ok (.aload_n 0, 1) := by decide +kernel
theorem dX9_ruled_48 : decode cX9_ruled 48 = .ok (.getfield 9, 3) := by decide +kernel
theorem dX9_ruled_51 : decode cX9_ruled 51 = .ok (.bipush 18, 2) := by decide +kernel
theorem dX9_ruled_53 : decode cX9_ruled 53 = .ok (.iload_n 1, 1) := by decide +kernel
theorem dX9_ruled_54 : decode cX9_ruled 54 = .ok (.iadd, 1) := by decide +kernel
theorem dX9_ruled_55 : decode cX9_ruled 55 = .ok (.iaload, 1) := by decide +kernel
theorem dX9_ruled_56 : decode cX9_ruled 56 = .ok (.istore 4, 2) := by decide +kernel
theorem dX9_ruled_58 : decode cX9_ruled 58 = .ok (.aload_n 0, 1) := by decide +kernel
theorem dX9_ruled_59 : decode cX9_ruled 59 = .ok (.getfield 18, 3) := by decide +kernel
theorem dX9_ruled_62 : decode cX9_ruled 62 = .ok (.aload_n 0, 1) := by decide +kernel
theorem dX9_ruled_63 : decode cX9_ruled 63 = .ok (.getfield 9, 3) := by decide +kernel
theorem dX9_ruled_66 : decode cX9_ruled 66 = .ok (.invokestatic 105, 3) := by decide +kernel
theorem dX9_ruled_69 : decode cX9_ruled 69 = .ok (.iload_n 3, 1) := by decide +kernel
theorem dX9_ruled_70 : decode cX9_ruled 70 = .ok (.ifCond .ne 10, 3) := by decide +kernel
theorem dX9_ruled_73 : decode cX9_ruled 73 = .ok (.aload_n 0, 1) := by decide +kernel
theorem dX9_ruled_74 : decode cX9_ruled 74 = .ok (.getfield 199, 3) := by decide +kernel
theorem dX9_ruled_77 : decode cX9_ruled 77 = .ok (.goto 17, 3) := by decide +kernel
theorem dX9_ruled_80 : decode cX9_ruled 80 = .ok (.iload_n 3, 1) := by decide +kernel
theorem dX9_ruled_81 : decode cX9_ruled 81 = .ok (.iconst 1, 1) := by decide +kernel
theorem dX9_ruled_82 : decode cX9_ruled 82 = .ok (.if_icmp .ne 10, 3) := by decide +kernel
theorem dX9_ruled_85 : decode cX9_ruled 85 = .ok (.aload_n 0, 1) := by decide +kernel
theorem dX9_ruled_86 : decode cX9_ruled 86 = .ok (.getfield 196, 3) := by decide +kernel
theorem dX9_ruled_89 : decode cX9_ruled 89 = .ok (.goto 5, 3) := by decide +kernel
theorem dX9_ruled_92 : decode cX9_ruled 92 = .ok (.iload 4, 2) := by decide +kernel
theorem dX9_ruled_94 : decode cX9_ruled 94 = .ok (.ireturn, 1) := by decide +kernel
theorem dX9_run_0 : decode cX9_run 0 = .ok (.aload_n 0, 1) := by decide +kernel
theorem dX9_run_1 : decode cX9_run 1 = .ok (.iload_n 1, 1) := by decide +kernel
theorem dX9_run_2 : decode cX9_run 2 = .ok (.invokevirtual 50, 3) := by decide +kernel
theorem dX9_run_5 : decode cX9_run 5 = .ok (.ifCond .eq 12, 3) := by decide +kernel
theorem dX9_run_8 : decode cX9_run 8 = .ok (.iload_n 2, 1) := by decide +kernel
theorem dX9_run_9 : decode cX9_run 9 = .ok (.iconst 0, 1) := by decide +kernel
theorem dX9_run_10 : decode cX9_run 10 = .ok (.iconst 3, 1) := by decide +kernel
theorem dX9_run_11 : decode cX9_run 11 = .ok (.invokestatic 46, 3) := by decide +kernel
theorem dX9_run_14 : decode cX9_run 14 = .ok (.ifCond .ne 5, 3) := by decide +kernel
theorem dX9_run_17 : decode cX9_run 17 = .ok (.iconst (-1), 1) := by decide +kernel
theorem dX9_run_18 : decode cX9_run 18 = .ok (.ireturn, 1) := by decide +kernel
theorem dX9_run_19 : decode cX9_run 19 = .ok (.aload_n 0, 1) := by decide +kernel
theorem dX9_run_20 : decode cX9_run 20 = .ok (.iload_n 1, 1) := by decide +kernel
theorem dX9_run_21 : decode cX9_run 21 = .ok (.iload_n 2, 1) := by decide +kernel
theorem dX9_run_22 : decode cX9_run 22 = .ok (.iconst 1, 1) := by decide +kernel
theorem dX9_run_23 : decode cX9_run 23 = .ok (.invokevirtual 205, 3) := by decide +kernel
theorem dX9_run_26 : decode cX9_run 26 = .ok (.aload_n 0, 1) := by decide +kernel
theorem dX9_run_27 : decode cX9_run 27 = .ok (.getfield 196, 3) := by decide +kernel
theorem dX9_run_30 : decode cX9_run 30 = .ok (.ireturn, 1) := by decide +kernel
theorem dX9_keeper_0 : decode cX9_keeper 0 = .ok (.aload_n 0, 1) := by decide +kernel
theorem dX9_keeper_1 : decode cX9_keeper 1 = .ok (.iload_n 1, 1) := by decide +kernel
theorem dX9_keeper_2 : decode cX9_keeper 2 = .ok (.invokevirtual 50, 3) := by decide +kernel
theorem dX9_keeper_5 : decode cX9_keeper 5 = .ok (.ifCond .ne 5, 3) := by decide +kernel
theorem dX9_keeper_8 : decode cX9_keeper 8 = .ok (.iconst (-1), 1) := by decide +kernel
theorem dX9_keeper_9 : decode cX9_keeper 9 = .ok (.ireturn, 1) := by decide +kernel
theorem dX9_keeper_10 : decode cX9_keeper 10 = .ok (.iconst 0, 1) := by decide +kernel
theorem dX9_keeper_11 : decode cX9_keeper 11 = .ok (.istore_n 2, 1) := by decide +kernel
theorem dX9_keeper_12 : decode cX9_keeper 12 = .ok (.iconst (-1), 1) := by decide +kernel
theorem dX9_keeper_13 : decode cX9_keeper 13 = .ok (.istore_n 3, 1) := by decide +kernel
theorem dX9_keeper_14 : decode cX9_keeper 14 = .ok (.iconst 0, 1) := by decide +kernel
theorem dX9_keeper_15 : decode cX9_keeper 15 = .ok (.istore 4, 2) := by decide +kernel
theorem dX9_keeper_17 : decode cX9_keeper 17 = .ok (.iconst 0, 1) := by decide +kernel
theorem dX9_keeper_18 : decode cX9_keeper 18 = .ok (.istore 5, 2) := by decide +kernel
theorem dX9_keeper_20 : decode cX9_keeper 20 = .ok (.iload 5, 2) := by decide +kernel
theorem dX9_keeper_22 : decode cX9_keeper 22 = .ok (.iconst 4, 1) := by decide +kernel
theorem dX9_keeper_23 : decode cX9_keeper 23 = .ok (.if_icmp .ge 81, 3) := by decide +kernel
theorem dX9_keeper_26 : decode cX9_keeper 26 = .ok (.aload_n 0, 1) := by decide +kernel
theorem dX9_keeper_27 : decode cX9_keeper 27 = .ok (.getfield 9, 3) := by decide +kernel
theorem dX9_keeper_30 : decode cX9_keeper 30 = .ok (.aload_n 0, 1) := by decide +kernel
theorem dX9_keeper_31 : decode cX9_keeper 31 = .ok (.getfield 18, 3) := by decide +kernel
theorem dX9_keeper_34 : decode cX9_keeper 34 = .ok (.invokestatic 105, 3) := by decide +kernel
theorem dX9_keeper_37 : decode cX9_keeper 37 = .ok (.aload_n 0, 1) := by decide +kernel
theorem dX9_keeper_38 : decode cX9_keeper 38 = .ok (.iload_n 1, 1) := by decide +kernel
theorem dX9_keeper_39 : decode cX9_keeper 39 = .ok (.iload 5, 2) := by decide +kernel
theorem dX9_keeper_41 : decode cX9_keeper 41 = .ok (.iconst 0, 1) := by decide +kernel
theorem dX9_keeper_42 : decode cX9_keeper 42 = .ok (.invokevirtual 205, 3) := by decide +kernel
theorem dX9_keeper_45 : decode cX9_keeper 45 = .ok (.aload_n 0, 1) := by decide +kernel
theorem dX9_keeper_46 : decode cX9_keeper 46 = .ok (.getfield 18, 3) := by decide +kernel
theorem dX9_keeper_49 : decode cX9_keeper 49 = .ok (.aload_n 0, 1) := by decide +kernel
theorem dX9_keeper_50 : decode cX9_keeper 50 = .ok (.getfield 9, 3) := by decide +kernel
theorem dX9_keeper_53 : decode cX9_keeper 53 = .ok (.invokestatic 105, 3) := by decide +kernel
theorem dX9_keeper_56 : decode cX9_keeper 56 = .ok (.aload_n 0, 1) := by decide +kernel
theorem dX9_keeper_57 : decode cX9_keeper 57 = .ok (.getfield 196, 3) := by decide +kernel
theorem dX9_keeper_60 : decode cX9_keeper 60 = .ok (.iload_n 3, 1) := by decide +kernel
theorem dX9_keeper_61 : decode cX9_keeper 61 = .ok (.if_icmp .lt 37, 3) := by decide +kernel
theorem dX9_keeper_64 : decode cX9_keeper 64 = .ok (.aload_n 0, 1) := by decide +kernel
theorem dX9_keeper_65 : decode cX9_keeper 65 = .ok (.getfield 196, 3) := by decide +kernel
theorem dX9_keeper_68 : decode cX9_keeper 68 = .ok (.iload_n 3, 1) := by decide +kernel
theorem dX9_keeper_69 : decode cX9_keeper 69 = .ok (.if_icmp .ne 15, 3) := by decide +kernel
theorem dX9_keeper_72 : decode cX9_keeper 72 = .ok (.aload_n 0, 1) := by decide +kernel
theorem dX9_keeper_73 : decode cX9_keeper 73 = .ok (.getfield 199, 3) := by decide +kernel
theorem dX9_keeper_76 : decode cX9_keeper 76 = .ok (.iload 4, 2) := by decide +kernel
theorem dX9_keeper_78 : decode cX9_keeper 78 = .ok (.if_icmp .lt 6, 3) := by decide +kernel
theorem dX9_keeper_81 : decode cX9_keeper 81 = .ok (.goto 17, 3) := by decide +kernel
theorem dX9_keeper_84 : decode cX9_keeper 84 = .ok (.iload 5, 2) := by decide +kernel
theorem dX9_keeper_86 : decode cX9_keeper 86 = .ok (.istore_n 2, 1) := by decide +kernel
theorem dX9_keeper_87 : decode cX9_keeper 87 = .ok (.aload_n 0, 1) := by decide +kernel
theorem dX9_keeper_88 : decode cX9_keeper 88 = .ok (.getfield 196, 3) := by decide +kernel
theorem dX9_keeper_91 : decode cX9_keeper 91 = .ok (.istore_n 3, 1) := by decide +kernel
theorem dX9_keeper_92 : decode cX9_keeper 92 = .ok (.aload_n 0, 1) := by decide +kernel
theorem dX9_keeper_93 : decode cX9_keeper 93 = .ok (.getfield 199, 3) := by decide +kernel
theorem dX9_keeper_96 : decode cX9_keeper 96 = .ok (.istore 4, 2) := by decide +kernel
theorem dX9_keeper_98 : decode cX9_keeper 98 = .ok (.iinc 5 1, 3) := by decide +kernel
theorem dX9_keeper_101 : decode cX9_keeper 101 = .ok (.goto (-81), 3) := by decide +kernel
theorem dX9_keeper_104 : decode cX9_keeper 104 = .ok (.iload_n 2, 1) := by decide +kernel
theorem dX9_keeper_105 : decode cX9_keeper 105 = .ok (.ireturn, 1) := by decide +kernel
theorem dX9_crosses_0 : decode cX9_crosses 0 = .ok (.aload_n 0, 1) := by decide +kernel
theorem dX9_crosses_1 : decode cX9_crosses 1 = .ok (.getfield 9, 3) := by decide +kernel
theorem dX9_crosses_4 : decode cX9_crosses 4 = .ok (.bipush 53, 2) := by decide +kernel
theorem dX9_crosses_6 : decode cX9_crosses 6 = .ok (.iaload, 1) := by decide +kernel
theorem dX9_crosses_7 : decode cX9_crosses 7 = .ok (.istore_n 3, 1) := by decide +kernel
theorem dX9_crosses_8 : decode cX9_crosses 8 = .ok (.iconst 0, 1) := by decide +kernel
theorem dX9_crosses_9 : decode cX9_crosses 9 = .ok (.istore 4, 2) := by decide +kernel
theorem dX9_crosses_11 : decode cX9_crosses 11 = .ok (.iload 4, 2) := by decide +kernel
theorem dX9_crosses_13 : decode cX9_crosses 13 = .ok (.iload_n 3, 1) := by decide +kernel
theorem dX9_crosses_14 : decode cX9_crosses 14 = .ok (.if_icmp .ge 73, 3) := by decide +kernel
theorem dX9_crosses_17 : decode cX9_crosses 17 = .ok (.iload_n 1, 1) := by decide +kernel
theorem dX9_crosses_18 : decode cX9_crosses 18 = .ok (.ifCond .eq 8, 3) := by decide +kernel
theorem dX9_crosses_21 : decode cX9_crosses 21 = .ok (.iload 4, 2) := by decide +kernel
theorem dX9_crosses_23 : decode cX9_crosses 23 = .ok (.goto 9, 3) := by decide +kernel
theorem dX9_crosses_26 : decode cX9_crosses 26 = .ok (.iload_n 3, 1) := by decide +kernel
theorem dX9_crosses_27 : decode cX9_crosses 27 = .ok (.iconst 1, 1) := by decide +kernel
theorem dX9_crosses_28 : decode cX9_crosses 28 = .ok (.isub, 1) := by decide +kernel
theorem dX9_crosses_29 : decode cX9_crosses 29 = .ok (.iload 4, 2) := by decide +kernel
theorem dX9_crosses_31 : decode cX9_crosses 31 = .ok (.isub, 1) := by decide +kernel
theorem dX9_crosses_32 : decode cX9_crosses 32 = .ok (.istore 5, 2) := by decide +kernel
theorem dX9_crosses_34 : decode cX9_crosses 34 = .ok (.iload_n 2, 1) := by decide +kernel
theorem dX9_crosses_35 : decode cX9_crosses 35 = .ok (.ifCond .eq 17, 3) := by decide +kernel
theorem dX9_crosses_38 : decode cX9_crosses 38 = .ok (.aload_n 0, 1) := by decide +kernel
theorem dX9_crosses_39 : decode cX9_crosses 39 = .ok (.iload 5, 2) := by decide +kernel
theorem dX9_crosses_41 : decode cX9_crosses 41 = .ok (.iload_n 1, 1) := by decide +kernel
theorem dX9_crosses_42 : decode cX9_crosses 42 = .ok (.iconst 0, 1) := by decide +kernel
theorem dX9_crosses_43 : decode cX9_crosses 43 = .ok (.invokevirtual 154, 3) := by decide +kernel
theorem dX9_crosses_46 : decode cX9_crosses 46 = .ok (.ifCond .ne 25, 3) := by decide +kernel
theorem dX9_crosses_49 : decode cX9_crosses 49 = .ok (.goto 14, 3) := by decide +kernel
theorem dX9_crosses_52 : decode cX9_crosses 52 = .ok (.aload_n 0, 1) := by decide +kernel
theorem dX9_crosses_53 : decode cX9_crosses 53 = .ok (.iload 5, 2) := by decide +kernel
theorem dX9_crosses_55 : decode cX9_crosses 55 = .ok (.iload_n 1, 1) := by decide +kernel
theorem dX9_crosses_56 : decode cX9_crosses 56 = .ok (.iconst 0, 1) := by decide +kernel
theorem dX9_crosses_57 : decode cX9_crosses 57 = .ok (.invokevirtual 140, 3) := by decide +kernel
theorem dX9_crosses_60 : decode cX9_crosses 60 = .ok (.ifCond .ne 11, 3) := by decide +kernel
theorem dX9_crosses_63 : decode cX9_crosses 63 = .ok (.aload_n 0, 1) := by decide +kernel
theorem dX9_crosses_64 : decode cX9_crosses 64 = .ok (.iload 5, 2) := by decide +kernel
theorem dX9_crosses_66 : decode cX9_crosses 66 = .ok (.putfield 209, 3) := by decide +kernel
theorem dX9_crosses_69 : decode cX9_crosses 69 = .ok (.iconst 0, 1) := by decide +kernel
theorem dX9_crosses_70 : decode cX9_crosses 70 = .ok (.ireturn, 1) := by decide +kernel
theorem dX9_crosses_71 : decode cX9_crosses 71 = .ok (.aload_n 0, 1) := by decide +kernel
theorem dX9_crosses_72 : decode cX9_crosses 72 = .ok (.dup, 1) := by decide +kernel
theorem dX9_crosses_73 : decode cX9_crosses 73 = .ok (.getfield 196, 3) := by decide +kernel
theorem dX9_crosses_76 : decode cX9_crosses 76 = .ok (.iconst 1, 1) := by decide +kernel
theorem dX9_crosses_77 : decode cX9_crosses 77 = .ok (.iadd, 1) := by decide +kernel
theorem dX9_crosses_78 : decode cX9_crosses 78 = .ok (.putfield 196, 3) := by decide +kernel
theorem dX9_crosses_81 : decode cX9_crosses 81 = .ok (.iinc 4 1, 3) := by decide +kernel
theorem dX9_crosses_84 : decode cX9_crosses 84 = .ok (.goto (-73), 3) := by decide +kernel
theorem dX9_crosses_87 : decode cX9_crosses 87 = .ok (.iconst 1, 1) := by decide +kernel
theorem dX9_crosses_88 : decode cX9_crosses 88 = .ok (.ireturn, 1) := by decide +kernel
theorem dX9_dayGoes_0 : decode cX9_dayGoes 0 = .ok (.aload_n 0, 1) := by decide +kernel
theorem dX9_dayGoes_1 : decode cX9_dayGoes 1 = .ok (.getfield 9, 3) := by decide +kernel
theorem dX9_dayGoes_4 : decode cX9_dayGoes 4 = .ok (.bipush 53, 2) := by decide +kernel
theorem dX9_dayGoes_6 : decode cX9_dayGoes 6 = .ok (.iaload, 1) := by decide +kernel
theorem dX9_dayGoes_7 : decode cX9_dayGoes 7 = .ok (.istore 4, 2) := by decide +kernel
theorem dX9_dayGoes_9 : decode cX9_dayGoes 9 = .ok (.aload_n 0, 1) := by decide +kernel
theorem dX9_dayGoes_10 : decode cX9_dayGoes 10 = .ok (.iconst 0, 1) := by decide +kernel
theorem dX9_dayGoes_11 : decode cX9_dayGoes 11 = .ok (.putfield 196, 3) := by decide +kernel
theorem dX9_dayGoes_14 : decode cX9_dayGoes 14 = .ok (.aload_n 0, 1) := by decide +kernel
theorem dX9_dayGoes_15 : decode cX9_dayGoes 15 = .ok (.bipush (-2), 2) := by decide +kernel
theorem dX9_dayGoes_17 : decode cX9_dayGoes 17 = .ok (.putfield 209, 3) := by decide +kernel
theorem dX9_dayGoes_20 : decode cX9_dayGoes 20 = .ok (.iload 4, 2) := by decide +kernel
theorem dX9_dayGoes_22 : decode cX9_dayGoes 22 = .ok (.istore 5, 2) := by decide +kernel
theorem dX9_dayGoes_24 : decode cX9_dayGoes 24 = .ok (.iload 5, 2) := by decide +kernel
theorem dX9_dayGoes_26 : decode cX9_dayGoes 26 = .ok (.ifCond .lt 53, 3) := by decide +kernel
theorem dX9_dayGoes_29 : decode cX9_dayGoes 29 = .ok (.aload_n 0, 1) := by decide +kernel
theorem dX9_dayGoes_30 : decode cX9_dayGoes 30 = .ok (.getfield 9, 3) := by decide +kernel
theorem dX9_dayGoes_33 : decode cX9_dayGoes 33 = .ok (.bipush 24, 2) := by decide +kernel
theorem dX9_dayGoes_35 : decode cX9_dayGoes 35 = .ok (.iload 5, 2) := by decide +kernel
theorem dX9_dayGoes_37 : decode cX9_dayGoes 37 = .ok (.iadd, 1) := by decide +kernel
theorem dX9_dayGoes_38 : decode cX9_dayGoes 38 = .ok (.aload_n 0, 1) := by decide +kernel
theorem dX9_dayGoes_39 : decode cX9_dayGoes 39 = .ok (.getfield 9, 3) := by decide +kernel
theorem dX9_dayGoes_42 : decode cX9_dayGoes 42 = .ok (.bipush 31, 2) := by decide +kernel
theorem dX9_dayGoes_44 : decode cX9_dayGoes 44 = .ok (.iload 5, 2) := by decide +kernel
theorem dX9_dayGoes_46 : decode cX9_dayGoes 46 = .ok (.iadd, 1) := by decide +kernel
theorem dX9_dayGoes_47 : decode cX9_dayGoes 47 = .ok (.iaload, 1) := by decide +kernel
theorem dX9_dayGoes_48 : decode cX9_dayGoes 48 = .ok (.aload_n 0, 1) := by decide +kernel
theorem dX9_dayGoes_49 : decode cX9_dayGoes 49 = .ok (.getfield 9, 3) := by decide +kernel
theorem dX9_dayGoes_52 : decode cX9_dayGoes 52 = .ok (.bipush 24, 2) := by decide +kernel
theorem dX9_dayGoes_54 : decode cX9_dayGoes 54 = .ok (.iload 5, 2) := by decide +kernel
theorem dX9_dayGoes_56 : decode cX9_dayGoes 56 = .ok (.iadd, 1) := by decide +kernel
theorem dX9_dayGoes_57 : decode cX9_dayGoes 57 = .ok (.iaload, 1) := by decide +kernel
theorem dX9_dayGoes_58 : decode cX9_dayGoes 58 = .ok (.aload_n 0, 1) := by decide +kernel
theorem dX9_dayGoes_59 : decode cX9_dayGoes 59 = .ok (.getfield 9, 3) := by decide +kernel
theorem dX9_dayGoes_62 : decode cX9_dayGoes 62 = .ok (.bipush 45, 2) := by decide +kernel
theorem dX9_dayGoes_64 : decode cX9_dayGoes 64 = .ok (.iload 5, 2) := by decide +kernel
theorem dX9_dayGoes_66 : decode cX9_dayGoes 66 = .ok (.iadd, 1) := by decide +kernel
theorem dX9_dayGoes_67 : decode cX9_dayGoes 67 = .ok (.iaload, 1) := by decide +kernel
theorem dX9_dayGoes_68 : decode cX9_dayGoes 68 = .ok (.isub, 1) := by decide +kernel
theorem dX9_dayGoes_69 : decode cX9_dayGoes 69 = .ok (.invokestatic 212, 3) := by decide +kernel
theorem dX9_dayGoes_72 : decode cX9_dayGoes 72 = .ok (.iastore, 1) := by decide +kernel
theorem dX9_dayGoes_73 : decode cX9_dayGoes 73 = .ok (.iinc 5 (-1), 3) := by decide +kernel
theorem dX9_dayGoes_76 : decode cX9_dayGoes 76 = .ok (.goto (-52), 3) := by decide +kernel
theorem dX9_dayGoes_79 : decode cX9_dayGoes 79 = .ok (.aload_n 0, 1) := by decide +kernel
theorem dX9_dayGoes_80 : decode cX9_dayGoes 80 = .ok (.getfield 9, 3) := by decide +kernel
theorem dX9_dayGoes_83 : decode cX9_dayGoes 83 = .ok (.bipush 24, 2) := by decide +kernel
theorem dX9_dayGoes_85 : decode cX9_dayGoes 85 = .ok (.iload 4, 2) := by decide +kernel
theorem dX9_dayGoes_87 : decode cX9_dayGoes 87 = .ok (.iadd, 1) := by decide +kernel
theorem dX9_dayGoes_88 : decode cX9_dayGoes 88 = .ok (.aload_n 0, 1) := by decide +kernel
theorem dX9_dayGoes_89 : decode cX9_dayGoes 89 = .ok (.getfield 9, 3) := by decide +kernel
theorem dX9_dayGoes_92 : decode cX9_dayGoes 92 = .ok (.bipush 38, 2) := by decide +kernel
theorem dX9_dayGoes_94 : decode cX9_dayGoes 94 = .ok (.iload 4, 2) := by decide +kernel
theorem dX9_dayGoes_96 : decode cX9_dayGoes 96 = .ok (.iadd, 1) := by decide +kernel
theorem dX9_dayGoes_97 : decode cX9_dayGoes 97 = .ok (.iaload, 1) := by decide +kernel
theorem dX9_dayGoes_98 : decode cX9_dayGoes 98 = .ok (.aload_n 0, 1) := by decide +kernel
theorem dX9_dayGoes_99 : decode cX9_dayGoes 99 = .ok (.getfield 9, 3) := by decide +kernel
theorem dX9_dayGoes_102 : decode cX9_dayGoes 102 = .ok (.bipush 24, 2) := by decide +kernel
theorem dX9_dayGoes_104 : decode cX9_dayGoes 104 = .ok (.iload 4, 2) := by decide +kernel
theorem dX9_dayGoes_106 : decode cX9_dayGoes 106 = .ok (.iadd, 1) := by decide +kernel
theorem dX9_dayGoes_107 : decode cX9_dayGoes 107 = .ok (.iaload, 1) := by decide +kernel
theorem dX9_dayGoes_108 : decode cX9_dayGoes 108 = .ok (.aload_n 0, 1) := by decide +kernel
theorem dX9_dayGoes_109 : decode cX9_dayGoes 109 = .ok (.getfield 9, 3) := by decide +kernel
theorem dX9_dayGoes_112 : decode cX9_dayGoes 112 = .ok (.bipush 52, 2) := by decide +kernel
theorem dX9_dayGoes_114 : decode cX9_dayGoes 114 = .ok (.iaload, 1) := by decide +kernel
theorem dX9_dayGoes_115 : decode cX9_dayGoes 115 = .ok (.iadd, 1) := by decide +kernel
theorem dX9_dayGoes_116 : decode cX9_dayGoes 116 = .ok (.invokestatic 177, 3) := by decide +kernel
theorem dX9_dayGoes_119 : decode cX9_dayGoes 119 = .ok (.iastore, 1) := by decide +kernel
theorem dX9_dayGoes_120 : decode cX9_dayGoes 120 = .ok (.iload_n 1, 1) := by decide +kernel
theorem dX9_dayGoes_121 : decode cX9_dayGoes 121 = .ok (.istore 5, 2) := by decide +kernel
theorem dX9_dayGoes_123 : decode cX9_dayGoes 123 = .ok (.iload_n 2, 1) := by decide +kernel
theorem dX9_dayGoes_124 : decode cX9_dayGoes 124 = .ok (.istore 6, 2) := by decide +kernel
theorem dX9_dayGoes_126 : decode cX9_dayGoes 126 = .ok (.iconst 1, 1) := by decide +kernel
theorem dX9_dayGoes_127 : decode cX9_dayGoes 127 = .ok (.istore 7, 2) := by decide +kernel
theorem dX9_dayGoes_129 : decode cX9_dayGoes 129 = .ok (.iload 5, 2) := by decide +kernel
theorem dX9_dayGoes_131 : decode cX9_dayGoes 131 = .ok (.ifCond .gt 8, 3) := by decide +kernel
theorem dX9_dayGoes_134 : decode cX9_dayGoes 134 = .ok (.iload 6, 2) := by decide +kernel
theorem dX9_dayGoes_136 : decode cX9_dayGoes 136 = .ok (.ifCond .le 65, 3) := by decide +kernel
theorem dX9_dayGoes_139 : decode cX9_dayGoes 139 = .ok (.iload 6, 2) := by decide +kernel
theorem dX9_dayGoes_141 : decode cX9_dayGoes 141 = .ok (.ifCond .eq 13, 3) := by decide +kernel
theorem dX9_dayGoes_144 : decode cX9_dayGoes 144 = .ok (.iload 5, 2) := by decide +kernel
theorem dX9_dayGoes_146 : decode cX9_dayGoes 146 = .ok (.ifCond .le 12, 3) := by decide +kernel
theorem dX9_dayGoes_149 : decode cX9_dayGoes 149 = .ok (.iload 7, 2) := by decide +kernel
theorem dX9_dayGoes_151 : decode cX9_dayGoes 151 = .ok (.ifCond .eq 7, 3) := by decide +kernel
theorem dX9_dayGoes_154 : decode cX9_dayGoes 154 = .ok (.iconst 1, 1) := by decide +kernel
theorem dX9_dayGoes_155 : decode cX9_dayGoes 155 = .ok (.goto 4, 3) := by decide +kernel
theorem dX9_dayGoes_158 : decode cX9_dayGoes 158 = .ok (.iconst 0, 1) := by decide +kernel
theorem dX9_dayGoes_159 : decode cX9_dayGoes 159 = .ok (.istore 8, 2) := by decide +kernel
theorem dX9_dayGoes_161 : decode cX9_dayGoes 161 = .ok (.aload_n 0, 1) := by decide +kernel
theorem dX9_dayGoes_162 : decode cX9_dayGoes 162 = .ok (.iload 8, 2) := by decide +kernel
theorem dX9_dayGoes_164 : decode cX9_dayGoes 164 = .ok (.iload_n 3, 1) := by decide +kernel
theorem dX9_dayGoes_165 : decode cX9_dayGoes 165 = .ok (.invokevirtual 215, 3) := by decide +kernel
theorem dX9_dayGoes_168 : decode cX9_dayGoes 168 = .ok (.ifCond .ne 4, 3) := by decide +kernel
theorem dX9_dayGoes_171 : decode cX9_dayGoes 171 = .ok (.return_, 1) := by decide +kernel
theorem dX9_dayGoes_172 : decode cX9_dayGoes 172 = .ok (.iload 8, 2) := by decide +kernel
theorem dX9_dayGoes_174 : decode cX9_dayGoes 174 = .ok (.ifCond .eq 9, 3) := by decide +kernel
theorem dX9_dayGoes_177 : decode cX9_dayGoes 177 = .ok (.iinc 5 (-1), 3) := by decide +kernel
theorem dX9_dayGoes_180 : decode cX9_dayGoes 180 = .ok (.goto 6, 3) := by decide +kernel
theorem dX9_dayGoes_183 : decode cX9_dayGoes 183 = .ok (.iinc 6 (-1), 3) := by decide +kernel
theorem dX9_dayGoes_186 : decode cX9_dayGoes 186 = .ok (.iload 8, 2) := by decide +kernel
theorem dX9_dayGoes_188 : decode cX9_dayGoes 188 = .ok (.ifCond .ne 7, 3) := by decide +kernel
theorem dX9_dayGoes_191 : decode cX9_dayGoes 191 = .ok (.iconst 1, 1) := by decide +kernel
theorem dX9_dayGoes_192 : decode cX9_dayGoes 192 = .ok (.goto 4, 3) := by decide +kernel
theorem dX9_dayGoes_195 : decode cX9_dayGoes 195 = .ok (.iconst 0, 1) := by decide +kernel
theorem dX9_dayGoes_196 : decode cX9_dayGoes 196 = .ok (.istore 7, 2) := by decide +kernel
theorem dX9_dayGoes_198 : decode cX9_dayGoes 198 = .ok (.goto (-69), 3) := by decide +kernel
theorem dX9_dayGoes_201 : decode cX9_dayGoes 201 = .ok (.return_, 1) := by decide +kernel
theorem dX9_isTraffic_0 : decode cX9_isTraffic 0 = .ok (.iload_n 0, 1) := by decide +kernel
theorem dX9_isTraffic_1 : decode cX9_isTraffic 1 = .ok (.iconst 0, 1) := by decide +kernel
theorem dX9_isTraffic_2 : decode cX9_isTraffic 2 = .ok (.iconst 4, 1) := by decide +kernel
theorem dX9_isTraffic_3 : decode cX9_isTraffic 3 = .ok (.invokestatic 46, 3) := by decide +kernel
theorem dX9_isTraffic_6 : decode cX9_isTraffic 6 = .ok (.ifCond .eq 16, 3) := by decide +kernel
theorem dX9_isTraffic_9 : decode cX9_isTraffic 9 = .ok (.iload_n 1, 1) := by decide +kernel
theorem dX9_isTraffic_10 : decode cX9_isTraffic 10 = .ok (.iconst 0, 1) := by decide +kernel
theorem dX9_isTraffic_11 : decode cX9_isTraffic 11 = .ok (.iconst 4, 1) := by decide +kernel
theorem dX9_isTraffic_12 : decode cX9_isTraffic 12 = .ok (.invokestatic 46, 3) := by decide +kernel
theorem dX9_isTraffic_15 : decode cX9_isTraffic 15 = .ok (.ifCond .eq 7, 3) := by decide +kernel
theorem dX9_isTraffic_18 : decode cX9_isTraffic 18 = .ok (.iconst 1, 1) := by decide +kernel
theorem dX9_isTraffic_19 : decode cX9_isTraffic 19 = .ok (.goto 4, 3) := by decide +kernel
theorem dX9_isTraffic_22 : decode cX9_isTraffic 22 = .ok (.iconst 0, 1) := by decide +kernel
theorem dX9_isTraffic_23 : decode cX9_isTraffic 23 = .ok (.ireturn, 1) := by decide +kernel
theorem dX9_day_0 : decode cX9_day 0 = .ok (.iload_n 1, 1) := by decide +kernel
theorem dX9_day_1 : decode cX9_day 1 = .ok (.iload_n 2, 1) := by decide +kernel
theorem dX9_day_2 : decode cX9_day 2 = .ok (.invokestatic 219, 3) := by decide +kernel
theorem dX9_day_5 : decode cX9_day 5 = .ok (.ifCond .ne 5, 3) := by decide +kernel
theorem dX9_day_8 : decode cX9_day 8 = .ok (.iconst (-1), 1) := by decide +kernel
theorem dX9_day_9 : decode cX9_day 9 = .ok (.ireturn, 1) := by decide +kernel
theorem dX9_day_10 : decode cX9_day 10 = .ok (.aload_n 0, 1) := by decide +kernel
theorem dX9_day_11 : decode cX9_day 11 = .ok (.iload_n 1, 1) := by decide +kernel
theorem dX9_day_12 : decode cX9_day 12 = .ok (.iload_n 2, 1) := by decide +kernel
theorem dX9_day_13 : decode cX9_day 13 = .ok (.iconst 1, 1) := by decide +kernel
theorem dX9_day_14 : decode cX9_day 14 = .ok (.invokevirtual 222, 3) := by decide +kernel
theorem dX9_day_17 : decode cX9_day 17 = .ok (.aload_n 0, 1) := by decide +kernel
theorem dX9_day_18 : decode cX9_day 18 = .ok (.getfield 196, 3) := by decide +kernel
theorem dX9_day_21 : decode cX9_day 21 = .ok (.ireturn, 1) := by decide +kernel
theorem dX9_dry_0 : decode cX9_dry 0 = .ok (.iload_n 1, 1) := by decide +kernel
theorem dX9_dry_1 : decode cX9_dry 1 = .ok (.iload_n 2, 1) := by decide +kernel
theorem dX9_dry_2 : decode cX9_dry 2 = .ok (.invokestatic 219, 3) := by decide +kernel
theorem dX9_dry_5 : decode cX9_dry 5 = .ok (.ifCond .eq 12, 3) := by decide +kernel
theorem dX9_dry_8 : decode cX9_dry 8 = .ok (.iload_n 3, 1) := by decide +kernel
theorem dX9_dry_9 : decode cX9_dry 9 = .ok (.iconst 0, 1) := by decide +kernel
theorem dX9_dry_10 : decode cX9_dry 10 = .ok (.iconst 1, 1) := by decide +kernel
theorem dX9_dry_11 : decode cX9_dry 11 = .ok (.invokestatic 46, 3) := by decide +kernel
theorem dX9_dry_14 : decode cX9_dry 14 = .ok (.ifCond .ne 5, 3) := by decide +kernel
theorem dX9_dry_17 : decode cX9_dry 17 = .ok (.iconst (-1), 1) := by decide +kernel
theorem dX9_dry_18 : decode cX9_dry 18 = .ok (.ireturn, 1) := by decide +kernel
theorem dX9_dry_19 : decode cX9_dry 19 = .ok (.aload_n 0, 1) := by decide +kernel
theorem dX9_dry_20 : decode cX9_dry 20 = .ok (.getfield 9, 3) := by decide +kernel
theorem dX9_dry_23 : decode cX9_dry 23 = .ok (.aload_n 0, 1) := by decide +kernel
theorem dX9_dry_24 : decode cX9_dry 24 = .ok (.getfield 18, 3) := by decide +kernel
theorem dX9_dry_27 : decode cX9_dry 27 = .ok (.invokestatic 105, 3) := by decide +kernel
theorem dX9_dry_30 : decode cX9_dry 30 = .ok (.iconst 0, 1) := by decide +kernel
theorem dX9_dry_31 : decode cX9_dry 31 = .ok (.istore 4, 2) := by decide +kernel
theorem dX9_dry_33 : decode cX9_dry 33 = .ok (.aload_n 0, 1) := by decide +kernel
theorem dX9_dry_34 : decode cX9_dry 34 = .ok (.bipush (-2), 2) := by decide +kernel
theorem dX9_dry_36 : decode cX9_dry 36 = .ok (.putfield 209, 3) := by decide +kernel
theorem dX9_dry_39 : decode cX9_dry 39 = .ok (.iload 4, 2) := by decide +kernel
theorem dX9_dry_41 : decode cX9_dry 41 = .ok (.bipush 40, 2) := by decide +kernel
theorem dX9_dry_43 : decode cX9_dry 43 = .ok (.if_icmp .gt 25, 3) := by decide +kernel
theorem dX9_dry_46 : decode cX9_dry 46 = .ok (.aload_n 0, 1) := by decide +kernel
theorem dX9_dry_47 : decode cX9_dry 47 = .ok (.getfield 209, 3) := by decide +kernel
theorem dX9_dry_50 : decode cX9_dry 50 = .ok (.bipush (-2), 2) := by decide +kernel
theorem dX9_dry_52 : decode cX9_dry 52 = .ok (.if_icmp .ne 16, 3) := by decide +kernel
theorem dX9_dry_55 : decode cX9_dry 55 = .ok (.aload_n 0, 1) := by decide +kernel
theorem dX9_dry_56 : decode cX9_dry 56 = .ok (.iload_n 1, 1) := by decide +kernel
theorem dX9_dry_57 : decode cX9_dry 57 = .ok (.iload_n 2, 1) := by decide +kernel
theorem dX9_dry_58 : decode cX9_dry 58 = .ok (.iconst 0, 1) := by decide +kernel
theorem dX9_dry_59 : decode cX9_dry 59 = .ok (.invokevirtual 222, 3) := by decide +kernel
theorem dX9_dry_62 : decode cX9_dry 62 = .ok (.iinc 4 1, 3) := by decide +kernel
theorem dX9_dry_65 : decode cX9_dry 65 = .ok (.goto (-26), 3) := by decide +kernel
theorem dX9_dry_68 : decode cX9_dry 68 = .ok (.aload_n 0, 1) := by decide +kernel
theorem dX9_dry_69 : decode cX9_dry 69 = .ok (.getfield 18, 3) := by decide +kernel
theorem dX9_dry_72 : decode cX9_dry 72 = .ok (.aload_n 0, 1) := by decide +kernel
theorem dX9_dry_73 : decode cX9_dry 73 = .ok (.getfield 9, 3) := by decide +kernel
theorem dX9_dry_76 : decode cX9_dry 76 = .ok (.invokestatic 105, 3) := by decide +kernel
theorem dX9_dry_79 : decode cX9_dry 79 = .ok (.aload_n 0, 1) := by decide +kernel
theorem dX9_dry_80 : decode cX9_dry 80 = .ok (.getfield 209, 3) := by decide +kernel
theorem dX9_dry_83 : decode cX9_dry 83 = .ok (.bipush (-2), 2) := by decide +kernel
theorem dX9_dry_85 : decode cX9_dry 85 = .ok (.if_icmp .ne 8, 3) := by decide +kernel
theorem dX9_dry_88 : decode cX9_dry 88 = .ok (.bipush (-2), 2) := by decide +kernel
theorem dX9_dry_90 : decode cX9_dry 90 = .ok (.goto 18, 3) := by decide +kernel
theorem dX9_dry_93 : decode cX9_dry 93 = .ok (.iload_n 3, 1) := by decide +kernel
theorem dX9_dry_94 : decode cX9_dry 94 = .ok (.ifCond .ne 10, 3) := by decide +kernel
theorem dX9_dry_97 : decode cX9_dry 97 = .ok (.iload 4, 2) := by decide +kernel
theorem dX9_dry_99 : decode cX9_dry 99 = .ok (.iconst 1, 1) := by decide +kernel
theorem dX9_dry_100 : decode cX9_dry 100 = .ok (.isub, 1) := by decide +kernel
theorem dX9_dry_101 : decode cX9_dry 101 = .ok (.goto 7, 3) := by decide +kernel
theorem dX9_dry_104 : decode cX9_dry 104 = .ok (.aload_n 0, 1) := by decide +kernel
theorem dX9_dry_105 : decode cX9_dry 105 = .ok (.getfield 209, 3) := by decide +kernel
theorem dX9_dry_108 : decode cX9_dry 108 = .ok (.ireturn, 1) := by decide +kernel
theorem dX9_summit_0 : decode cX9_summit 0 = .ok (.iconst 0, 1) := by decide +kernel
theorem dX9_summit_1 : decode cX9_summit 1 = .ok (.istore 4, 2) := by decide +kernel
theorem dX9_summit_3 : decode cX9_summit 3 = .ok (.iload 4, 2) := by decide +kernel
theorem dX9_summit_5 : decode cX9_summit 5 = .ok (.iload_n 3, 1) := by decide +kernel
theorem dX9_summit_6 : decode cX9_summit 6 = .ok (.if_icmp .ge 16, 3) := by decide +kernel
theorem dX9_summit_9 : decode cX9_summit 9 = .ok (.aload_n 0, 1) := by decide +kernel
theorem dX9_summit_10 : decode cX9_summit 10 = .ok (.iload_n 1, 1) := by decide +kernel
theorem dX9_summit_11 : decode cX9_summit 11 = .ok (.iload_n 2, 1) := by decide +kernel
theorem dX9_summit_12 : decode cX9_summit 12 = .ok (.iconst 0, 1) := by decide +kernel
theorem dX9_summit_13 : decode cX9_summit 13 = .ok (.invokevirtual 222, 3) := by decide +kernel
theorem dX9_summit_16 : decode cX9_summit 16 = .ok (.iinc 4 1, 3) := by decide +kernel
theorem dX9_summit_19 : decode cX9_summit 19 = .ok (.goto (-16), 3) := by decide +kernel
theorem dX9_summit_22 : decode cX9_summit 22 = .ok (.aload_n 0, 1) := by decide +kernel
theorem dX9_summit_23 : decode cX9_summit 23 = .ok (.getfield 9, 3) := by decide +kernel
theorem dX9_summit_26 : decode cX9_summit 26 = .ok (.bipush 24, 2) := by decide +kernel
theorem dX9_summit_28 : decode cX9_summit 28 = .ok (.aload_n 0, 1) := by decide +kernel
theorem dX9_summit_29 : decode cX9_summit 29 = .ok (.getfield 9, 3) := by decide +kernel
theorem dX9_summit_32 : decode cX9_summit 32 = .ok (.bipush 53, 2) := by decide +kernel
theorem dX9_summit_34 : decode cX9_summit 34 = .ok (.iaload, 1) := by decide +kernel
theorem dX9_summit_35 : decode cX9_summit 35 = .ok (.iadd, 1) := by decide +kernel
theorem dX9_summit_36 : decode cX9_summit 36 = .ok (.iaload, 1) := by decide +kernel
theorem dX9_summit_37 : decode cX9_summit 37 = .ok (.ireturn, 1) := by decide +kernel
theorem dX9_pond_0 : decode cX9_pond 0 = .ok (.iload_n 1, 1) := by decide +kernel
theorem dX9_pond_1 : decode cX9_pond 1 = .ok (.iload_n 2, 1) := by decide +kernel
theorem dX9_pond_2 : decode cX9_pond 2 = .ok (.invokestatic 219, 3) := by decide +kernel
theorem dX9_pond_5 : decode cX9_pond 5 = .ok (.ifCond .eq 13, 3) := by decide +kernel
theorem dX9_pond_8 : decode cX9_pond 8 = .ok (.iload_n 3, 1) := by decide +kernel
theorem dX9_pond_9 : decode cX9_pond 9 = .ok (.iconst 1, 1) := by decide +kernel
theorem dX9_pond_10 : decode cX9_pond 10 = .ok (.bipush 20, 2) := by decide +kernel
theorem dX9_pond_12 : decode cX9_pond 12 = .ok (.invokestatic 46, 3) := by decide +kernel
theorem dX9_pond_15 : decode cX9_pond 15 = .ok (.ifCond .ne 5, 3) := by decide +kernel
theorem dX9_pond_18 : decode cX9_pond 18 = .ok (.iconst (-1), 1) := by decide +kernel
theorem dX9_pond_19 : decode cX9_pond 19 = .ok (.ireturn, 1) := by decide +kernel
theorem dX9_pond_20 : decode cX9_pond 20 = .ok (.aload_n 0, 1) := by decide +kernel
theorem dX9_pond_21 : decode cX9_pond 21 = .ok (.getfield 9, 3) := by decide +kernel
theorem dX9_pond_24 : decode cX9_pond 24 = .ok (.aload_n 0, 1) := by decide +kernel
theorem dX9_pond_25 : decode cX9_pond 25 = .ok (.getfield 18, 3) := by decide +kernel
theorem dX9_pond_28 : decode cX9_pond 28 = .ok (.invokestatic 105, 3) := by decide +kernel
theorem dX9_pond_31 : decode cX9_pond 31 = .ok (.aload_n 0, 1) := by decide +kernel
theorem dX9_pond_32 : decode cX9_pond 32 = .ok (.iload_n 1, 1) := by decide +kernel
theorem dX9_pond_33 : decode cX9_pond 33 = .ok (.iload_n 2, 1) := by decide +kernel
theorem dX9_pond_34 : decode cX9_pond 34 = .ok (.iload_n 3, 1) := by decide +kernel
theorem dX9_pond_35 : decode cX9_pond 35 = .ok (.invokevirtual 225, 3) := by decide +kernel
theorem dX9_pond_38 : decode cX9_pond 38 = .ok (.istore 4, 2) := by decide +kernel
theorem dX9_pond_40 : decode cX9_pond 40 = .ok (.bipush (-2), 2) := by decide +kernel
theorem dX9_pond_42 : decode cX9_pond 42 = .ok (.istore 5, 2) := by decide +kernel
theorem dX9_pond_44 : decode cX9_pond 44 = .ok (.iconst 0, 1) := by decide +kernel
theorem dX9_pond_45 : decode cX9_pond 45 = .ok (.istore 6, 2) := by decide +kernel
theorem dX9_pond_47 : decode cX9_pond 47 = .ok (.iload 6, 2) := by decide +kernel
theorem dX9_pond_49 : decode cX9_pond 49 = .ok (.aload_n 0, 1) := by decide +kernel
theorem dX9_pond_50 : decode cX9_pond 50 = .ok (.getfield 9, 3) := by decide +kernel
theorem dX9_pond_53 : decode cX9_pond 53 = .ok (.bipush 53, 2) := by decide +kernel
theorem dX9_pond_55 : decode cX9_pond 55 = .ok (.iaload, 1) := by decide +kernel
theorem dX9_pond_56 : decode cX9_pond 56 = .ok (.if_icmp .ge 105, 3) := by decide +kernel
theorem dX9_pond_59 : decode cX9_pond 59 = .ok (.aload_n 0, 1) := by decide +kernel
theorem dX9_pond_60 : decode cX9_pond 60 = .ok (.getfield 18, 3) := by decide +kernel
theorem dX9_pond_63 : decode cX9_pond 63 = .ok (.aload_n 0, 1) := by decide +kernel
theorem dX9_pond_64 : decode cX9_pond 64 = .ok (.getfield 9, 3) := by decide +kernel
theorem dX9_pond_67 : decode cX9_pond 67 = .ok (.invokestatic 105, 3) := by decide +kernel
theorem dX9_pond_70 : decode cX9_pond 70 = .ok (.aload_n 0, 1) := by decide +kernel
theorem dX9_pond_71 : decode cX9_pond 71 = .ok (.getfield 9, 3) := by decide +kernel
theorem dX9_pond_74 : decode cX9_pond 74 = .ok (.bipush 6, 2) := by decide +kernel
theorem dX9_pond_76 : decode cX9_pond 76 = .ok (.iload 6, 2) := by decide +kernel
theorem dX9_pond_78 : decode cX9_pond 78 = .ok (.iadd, 1) := by decide +kernel
theorem dX9_pond_79 : decode cX9_pond 79 = .ok (.iaload, 1) := by decide +kernel
theorem dX9_pond_80 : decode cX9_pond 80 = .ok (.iconst 3, 1) := by decide +kernel
theorem dX9_pond_81 : decode cX9_pond 81 = .ok (.if_icmp .eq 74, 3) := by decide +kernel
theorem dX9_pond_84 : decode cX9_pond 84 = .ok (.aload_n 0, 1) := by decide +kernel
theorem dX9_pond_85 : decode cX9_pond 85 = .ok (.getfield 9, 3) := by decide +kernel
theorem dX9_pond_88 : decode cX9_pond 88 = .ok (.bipush 18, 2) := by decide +kernel
theorem dX9_pond_90 : decode cX9_pond 90 = .ok (.iload 6, 2) := by decide +kernel
theorem dX9_pond_92 : decode cX9_pond 92 = .ok (.iadd, 1) := by decide +kernel
theorem dX9_pond_93 : decode cX9_pond 93 = .ok (.iaload, 1) := by decide +kernel
theorem dX9_pond_94 : decode cX9_pond 94 = .ok (.iconst 1, 1) := by decide +kernel
theorem dX9_pond_95 : decode cX9_pond 95 = .ok (.if_icmp .eq 60, 3) := by decide +kernel
theorem dX9_pond_98 : decode cX9_pond 98 = .ok (.aload_n 0, 1) := by decide +kernel
theorem dX9_pond_99 : decode cX9_pond 99 = .ok (.getfield 9, 3) := by decide +kernel
theorem dX9_pond_102 : decode cX9_pond 102 = .ok (.bipush 12, 2) := by decide +kernel
theorem dX9_pond_104 : decode cX9_pond 104 = .ok (.iload 6, 2) := by decide +kernel
theorem dX9_pond_106 : decode cX9_pond 106 = .ok (.iadd, 1) := by decide +kernel
theorem dX9_pond_107 : decode cX9_pond 107 = .ok (.iaload, 1) := by decide +kernel
theorem dX9_pond_108 : decode cX9_pond 108 = .ok (.ifCond .le 6, 3) := by decide +kernel
theorem dX9_pond_111 : decode cX9_pond 111 = .ok (.goto 44, 3) := by decide +kernel
theorem dX9_pond_114 : decode cX9_pond 114 = .ok (.aload_n 0, 1) := by decide +kernel
theorem dX9_pond_115 : decode cX9_pond 115 = .ok (.getfield 9, 3) := by decide +kernel
theorem dX9_pond_118 : decode cX9_pond 118 = .ok (.bipush 6, 2) := by decide +kernel
theorem dX9_pond_120 : decode cX9_pond 120 = .ok (.iload 6, 2) := by decide +kernel
theorem dX9_pond_122 : decode cX9_pond 122 = .ok (.iadd, 1) := by decide +kernel
theorem dX9_pond_123 : decode cX9_pond 123 = .ok (.dup2, 1) := by decide +kernel
theorem dX9_pond_124 : decode cX9_pond 124 = .ok (.iaload, 1) := by decide +kernel
theorem dX9_pond_125 : decode cX9_pond 125 = .ok (.iconst 1, 1) := by decide +kernel
theorem dX9_pond_126 : decode cX9_pond 126 = .ok (.iadd, 1) := by decide +kernel
theorem dX9_pond_127 : decode cX9_pond 127 = .ok (.iastore, 1) := by decide +kernel
theorem dX9_pond_128 : decode cX9_pond 128 = .ok (.aload_n 0, 1) := by decide +kernel
theorem dX9_pond_129 : decode cX9_pond 129 = .ok (.iload_n 1, 1) := by decide +kernel
theorem dX9_pond_130 : decode cX9_pond 130 = .ok (.iload_n 2, 1) := by decide +kernel
theorem dX9_pond_131 : decode cX9_pond 131 = .ok (.iload_n 3, 1) := by decide +kernel
theorem dX9_pond_132 : decode cX9_pond 132 = .ok (.invokevirtual 225, 3) := by decide +kernel
theorem dX9_pond_135 : decode cX9_pond 135 = .ok (.istore 7, 2) := by decide +kernel
theorem dX9_pond_137 : decode cX9_pond 137 = .ok (.iload 7, 2) := by decide +kernel
theorem dX9_pond_139 : decode cX9_pond 139 = .ok (.iload 4, 2) := by decide +kernel
theorem dX9_pond_141 : decode cX9_pond 141 = .ok (.if_icmp .gt 6, 3) := by decide +kernel
theorem dX9_pond_144 : decode cX9_pond 144 = .ok (.goto 11, 3) := by decide +kernel
theorem dX9_pond_147 : decode cX9_pond 147 = .ok (.iload 7, 2) := by decide +kernel
theorem dX9_pond_149 : decode cX9_pond 149 = .ok (.istore 4, 2) := by decide +kernel
theorem dX9_pond_151 : decode cX9_pond 151 = .ok (.iload 6, 2) := by decide +kernel
theorem dX9_pond_153 : decode cX9_pond 153 = .ok (.istore 5, 2) := by decide +kernel
theorem dX9_pond_155 : decode cX9_pond 155 = .ok (.iinc 6 1, 3) := by decide +kernel
theorem dX9_pond_158 : decode cX9_pond 158 = .ok (.goto (-111), 3) := by decide +kernel
theorem dX9_pond_161 : decode cX9_pond 161 = .ok (.aload_n 0, 1) := by decide +kernel
theorem dX9_pond_162 : decode cX9_pond 162 = .ok (.getfield 18, 3) := by decide +kernel
theorem dX9_pond_165 : decode cX9_pond 165 = .ok (.aload_n 0, 1) := by decide +kernel
theorem dX9_pond_166 : decode cX9_pond 166 = .ok (.getfield 9, 3) := by decide +kernel
theorem dX9_pond_169 : decode cX9_pond 169 = .ok (.invokestatic 105, 3) := by decide +kernel
theorem dX9_pond_172 : decode cX9_pond 172 = .ok (.iload 5, 2) := by decide +kernel
theorem dX9_pond_174 : decode cX9_pond 174 = .ok (.ireturn, 1) := by decide +kernel
theorem dX9_water_0 : decode cX9_water 0 = .ok (.iconst 0, 1) := by decide +kernel
theorem dX9_water_1 : decode cX9_water 1 = .ok (.istore_n 1, 1) := by decide +kernel
theorem dX9_water_2 : decode cX9_water 2 = .ok (.iconst 0, 1) := by decide +kernel
theorem dX9_water_3 : decode cX9_water 3 = .ok (.istore_n 2, 1) := by decide +kernel
theorem dX9_water_4 : decode cX9_water 4 = .ok (.iload_n 2, 1) := by decide +kernel
theorem dX9_water_5 : decode cX9_water 5 = .ok (.aload_n 0, 1) := by decide +kernel
theorem dX9_water_6 : decode cX9_water 6 = .ok (.getfield 9, 3) := by decide +kernel
theorem dX9_water_9 : decode cX9_water 9 = .ok (.bipush 53, 2) := by decide +kernel
theorem dX9_water_11 : decode cX9_water 11 = .ok (.iaload, 1) := by decide +kernel
theorem dX9_water_12 : decode cX9_water 12 = .ok (.if_icmp .gt 21, 3) := by decide +kernel
theorem dX9_water_15 : decode cX9_water 15 = .ok (.iload_n 1, 1) := by decide +kernel
theorem dX9_water_16 : decode cX9_water 16 = .ok (.aload_n 0, 1) := by decide +kernel
theorem dX9_water_17 : decode cX9_water 17 = .ok (.getfield 9, 3) := by decide +kernel
theorem dX9_water_20 : decode cX9_water 20 = .ok (.bipush 24, 2) := by decide +kernel
theorem dX9_water_22 : decode cX9_water 22 = .ok (.iload_n 2, 1) := by decide +kernel
theorem dX9_water_23 : decode cX9_water 23 = .ok (.iadd, 1) := by decide +kernel
theorem dX9_water_24 : decode cX9_water 24 = .ok (.iaload, 1) := by decide +kernel
theorem dX9_water_25 : decode cX9_water 25 = .ok (.iadd, 1) := by decide +kernel
theorem dX9_water_26 : decode cX9_water 26 = .ok (.istore_n 1, 1) := by decide +kernel
theorem dX9_water_27 : decode cX9_water 27 = .ok (.iinc 2 1, 3) := by decide +kernel
theorem dX9_water_30 : decode cX9_water 30 = .ok (.goto (-26), 3) := by decide +kernel
theorem dX9_water_33 : decode cX9_water 33 = .ok (.iconst 0, 1) := by decide +kernel
theorem dX9_water_34 : decode cX9_water 34 = .ok (.istore_n 2, 1) := by decide +kernel
theorem dX9_water_35 : decode cX9_water 35 = .ok (.iload_n 2, 1) := by decide +kernel
theorem dX9_water_36 : decode cX9_water 36 = .ok (.aload_n 0, 1) := by decide +kernel
theorem dX9_water_37 : decode cX9_water 37 = .ok (.getfield 9, 3) := by decide +kernel
theorem dX9_water_40 : decode cX9_water 40 = .ok (.bipush 53, 2) := by decide +kernel
theorem dX9_water_42 : decode cX9_water 42 = .ok (.iaload, 1) := by decide +kernel
theorem dX9_water_43 : decode cX9_water 43 = .ok (.if_icmp .ge 40, 3) := by decide +kernel
theorem dX9_water_46 : decode cX9_water 46 = .ok (.iload_n 1, 1) := by decide +kernel
theorem dX9_water_47 : decode cX9_water 47 = .ok (.aload_n 0, 1) := by decide +kernel
theorem dX9_water_48 : decode cX9_water 48 = .ok (.getfield 9, 3) := by decide +kernel
theorem dX9_water_51 : decode cX9_water 51 = .ok (.bipush 12, 2) := by decide +kernel
theorem dX9_water_53 : decode cX9_water 53 = .ok (.iload_n 2, 1) := by decide +kernel
theorem dX9_water_54 : decode cX9_water 54 = .ok (.iadd, 1) := by decide +kernel
theorem dX9_water_55 : decode cX9_water 55 = .ok (.iaload, 1) := by decide +kernel
theorem dX9_water_56 : decode cX9_water 56 = .ok (.aload_n 0, 1) := by decide +kernel
theorem dX9_water_57 : decode cX9_water 57 = .ok (.getfield 9, 3) := by decide +kernel
theorem dX9_water_60 : decode cX9_water 60 = .ok (.bipush 18, 2) := by decide +kernel
theorem dX9_water_62 : decode cX9_water 62 = .ok (.iload_n 2, 1) := by decide +kernel
theorem dX9_water_63 : decode cX9_water 63 = .ok (.iadd, 1) := by decide +kernel
theorem dX9_water_64 : decode cX9_water 64 = .ok (.iaload, 1) := by decide +kernel
theorem dX9_water_65 : decode cX9_water 65 = .ok (.aload_n 0, 1) := by decide +kernel
theorem dX9_water_66 : decode cX9_water 66 = .ok (.getfield 9, 3) := by decide +kernel
theorem dX9_water_69 : decode cX9_water 69 = .ok (.iconst 0, 1) := by decide +kernel
theorem dX9_water_70 : decode cX9_water 70 = .ok (.iload_n 2, 1) := by decide +kernel
theorem dX9_water_71 : decode cX9_water 71 = .ok (.iadd, 1) := by decide +kernel
theorem dX9_water_72 : decode cX9_water 72 = .ok (.iaload, 1) := by decide +kernel
theorem dX9_water_73 : decode cX9_water 73 = .ok (.imul, 1) := by decide +kernel
theorem dX9_water_74 : decode cX9_water 74 = .ok (.iadd, 1) := by decide +kernel
theorem dX9_water_75 : decode cX9_water 75 = .ok (.iadd, 1) := by decide +kernel
theorem dX9_water_76 : decode cX9_water 76 = .ok (.istore_n 1, 1) := by decide +kernel
theorem dX9_water_77 : decode cX9_water 77 = .ok (.iinc 2 1, 3) := by decide +kernel
theorem dX9_water_80 : decode cX9_water 80 = .ok (.goto (-45), 3) := by decide +kernel
theorem dX9_water_83 : decode cX9_water 83 = .ok (.iload_n 1, 1) := by decide +kernel
theorem dX9_water_84 : decode cX9_water 84 = .ok (.ireturn, 1) := by decide +kernel
theorem dX9_levels_0 : decode cX9_levels 0 = .ok (.iload_n 1, 1) := by decide +kernel
theorem dX9_levels_1 : decode cX9_levels 1 = .ok (.iconst (-1), 1) := by decide +kernel
theorem dX9_levels_2 : decode cX9_levels 2 = .ok (.if_icmp .ge 5, 3) := by decide +kernel
theorem dX9_levels_5 : decode cX9_levels 5 = .ok (.iconst (-1), 1) := by decide +kernel
theorem dX9_levels_6 : decode cX9_levels 6 = .ok (.ireturn, 1) := by decide +kernel
theorem dX9_levels_7 : decode cX9_levels 7 = .ok (.iconst 0, 1) := by decide +kernel
theorem dX9_levels_8 : decode cX9_levels 8 = .ok (.istore_n 2, 1) := by decide +kernel
theorem dX9_levels_9 : decode cX9_levels 9 = .ok (.iconst (-1), 1) := by decide +kernel
theorem dX9_levels_10 : decode cX9_levels 10 = .ok (.istore_n 3, 1) := by decide +kernel
theorem dX9_levels_11 : decode cX9_levels 11 = .ok (.iconst 1, 1) := by decide +kernel
theorem dX9_levels_12 : decode cX9_levels 12 = .ok (.istore 4, 2) := by decide +kernel
theorem dX9_levels_14 : decode cX9_levels 14 = .ok (.iload 4, 2) := by decide +kernel
theorem dX9_levels_16 : decode cX9_levels 16 = .ok (.ifCond .eq 100, 3) := by decide +kernel
theorem dX9_levels_19 : decode cX9_levels 19 = .ok (.ldc 192, 2) := by decide +kernel
theorem dX9_levels_21 : decode cX9_levels 21 = .ok (.istore 5, 2) := by decide +kernel
theorem dX9_levels_23 : decode cX9_levels 23 = .ok (.iconst 0, 1) := by decide +kernel
theorem dX9_levels_24 : decode cX9_levels 24 = .ok (.istore 6, 2) := by decide +kernel
theorem dX9_levels_26 : decode cX9_levels 26 = .ok (.iload 6, 2) := by decide +kernel
theorem dX9_levels_28 : decode cX9_levels 28 = .ok (.aload_n 0, 1) := by decide +kernel
theorem dX9_levels_29 : decode cX9_levels 29 = .ok (.getfield 9, 3) := by decide +kernel
theorem dX9_levels_32 : decode cX9_levels 32 = .ok (.bipush 53, 2) := by decide +kernel
theorem dX9_levels_34 : decode cX9_levels 34 = .ok (.iaload, 1) := by decide +kernel
theorem dX9_levels_35 : decode cX9_levels 35 = .ok (.if_icmp .gt 40, 3) := by decide +kernel
theorem dX9_levels_38 : decode cX9_levels 38 = .ok (.aload_n 0, 1) := by decide +kernel
theorem dX9_levels_39 : decode cX9_levels 39 = .ok (.getfield 9, 3) := by decide +kernel
theorem dX9_levels_42 : decode cX9_levels 42 = .ok (.bipush 24, 2) := by decide +kernel
theorem dX9_levels_44 : decode cX9_levels 44 = .ok (.iload 6, 2) := by decide +kernel
theorem dX9_levels_46 : decode cX9_levels 46 = .ok (.iadd, 1) := by decide +kernel
theorem dX9_levels_47 : decode cX9_levels 47 = .ok (.iaload, 1) := by decide +kernel
theorem dX9_levels_48 : decode cX9_levels 48 = .ok (.iload_n 3, 1) := by decide +kernel
theorem dX9_levels_49 : decode cX9_levels 49 = .ok (.if_icmp .le 20, 3) := by decide +kernel
theorem dX9_levels_52 : decode cX9_levels 52 = .ok (.iload 5, 2) := by decide +kernel
theorem dX9_levels_54 : decode cX9_levels 54 = .ok (.aload_n 0, 1) := by decide +kernel
theorem dX9_levels_55 : decode cX9_levels 55 = .ok (.getfield 9, 3) := by decide +kernel
theorem dX9_levels_58 : decode cX9_levels 58 = .ok (.bipush 24, 2) := by decide +kernel
theorem dX9_levels_60 : decode cX9_levels 60 = .ok (.iload 6, 2) := by decide +kernel
theorem dX9_levels_62 : decode cX9_levels 62 = .ok (.iadd, 1) := by decide +kernel
theorem dX9_levels_63 : decode cX9_levels 63 = .ok (.iaload, 1) := by decide +kernel
theorem dX9_levels_64 : decode cX9_levels 64 = .ok (.invokestatic 177, 3) := by decide +kernel
theorem dX9_levels_67 : decode cX9_levels 67 = .ok (.istore 5, 2) := by decide +kernel
theorem dX9_levels_69 : decode cX9_levels 69 = .ok (.iinc 6 1, 3) := by decide +kernel
theorem dX9_levels_72 : decode cX9_levels 72 = .ok (.goto (-46), 3) := by decide +kernel
theorem dX9_levels_75 : decode cX9_levels 75 = .ok (.iload 5, 2) := by decide +kernel
theorem dX9_levels_77 : decode cX9_levels 77 = .ok (.ldc 192, 2) := by decide +kernel
theorem dX9_levels_79 : decode cX9_levels 79 = .ok (.if_icmp .ge 7, 3) := by decide +kernel
theorem dX9_levels_82 : decode cX9_levels 82 = .ok (.iconst 1, 1) := by decide +kernel
theorem dX9_levels_83 : decode cX9_levels 83 = .ok (.goto 4, 3) := by decide +kernel
theorem dX9_levels_86 : decode cX9_levels 86 = .ok (.iconst 0, 1) := by decide +kernel
theorem dX9_levels_87 : decode cX9_levels 87 = .ok (.istore 4, 2) := by decide +kernel
theorem dX9_levels_89 : decode cX9_levels 89 = .ok (.iload 4, 2) := by decide +kernel
theorem dX9_levels_91 : decode cX9_levels 91 = .ok (.ifCond .eq 11, 3) := by decide +kernel
theorem dX9_levels_94 : decode cX9_levels 94 = .ok (.iload_n 2, 1) := by decide +kernel
theorem dX9_levels_95 : decode cX9_levels 95 = .ok (.iload_n 1, 1) := by decide +kernel
theorem dX9_levels_96 : decode cX9_levels 96 = .ok (.if_icmp .ne 6, 3) := by decide +kernel
theorem dX9_levels_99 : decode cX9_levels 99 = .ok (.iload 5, 2) := by decide +kernel
theorem dX9_levels_101 : decode cX9_levels 101 = .ok (.ireturn, 1) := by decide +kernel
theorem dX9_levels_102 : decode cX9_levels 102 = .ok (.iload 5, 2) := by decide +kernel
theorem dX9_levels_104 : decode cX9_levels 104 = .ok (.istore_n 3, 1) := by decide +kernel
theorem dX9_levels_105 : decode cX9_levels 105 = .ok (.iload 4, 2) := by decide +kernel
theorem dX9_levels_107 : decode cX9_levels 107 = .ok (.ifCond .eq 6, 3) := by decide +kernel
theorem dX9_levels_110 : decode cX9_levels 110 = .ok (.iinc 2 1, 3) := by decide +kernel
theorem dX9_levels_113 : decode cX9_levels 113 = .ok (.goto (-99), 3) := by decide +kernel
theorem dX9_levels_116 : decode cX9_levels 116 = .ok (.iload_n 1, 1) := by decide +kernel
theorem dX9_levels_117 : decode cX9_levels 117 = .ok (.iconst (-1), 1) := by decide +kernel
theorem dX9_levels_118 : decode cX9_levels 118 = .ok (.if_icmp .ne 7, 3) := by decide +kernel
theorem dX9_levels_121 : decode cX9_levels 121 = .ok (.iload_n 2, 1) := by decide +kernel
theorem dX9_levels_122 : decode cX9_levels 122 = .ok (.goto 5, 3) := by decide +kernel
theorem dX9_levels_125 : decode cX9_levels 125 = .ok (.bipush (-2), 2) := by decide +kernel
theorem dX9_levels_127 : decode cX9_levels 127 = .ok (.ireturn, 1) := by decide +kernel
theorem dX9_tally_0 : decode cX9_tally 0 = .ok (.iload_n 2, 1) := by decide +kernel
theorem dX9_tally_1 : decode cX9_tally 1 = .ok (.iconst 0, 1) := by decide +kernel
theorem dX9_tally_2 : decode cX9_tally 2 = .ok (.iconst 2, 1) := by decide +kernel
theorem dX9_tally_3 : decode cX9_tally 3 = .ok (.invokestatic 46, 3) := by decide +kernel
theorem dX9_tally_6 : decode cX9_tally 6 = .ok (.ifCond .ne 6, 3) := by decide +kernel
theorem dX9_tally_9 : decode cX9_tally 9 = .ok (.ldc 157, 2) := by decide +kernel
theorem dX9_tally_11 : decode cX9_tally 11 = .ok (.ireturn, 1) := by decide +kernel
theorem dX9_tally_12 : decode cX9_tally 12 = .ok (.iconst 0, 1) := by decide +kernel
theorem dX9_tally_13 : decode cX9_tally 13 = .ok (.istore_n 3, 1) := by decide +kernel
theorem dX9_tally_14 : decode cX9_tally 14 = .ok (.iconst 0, 1) := by decide +kernel
theorem dX9_tally_15 : decode cX9_tally 15 = .ok (.istore 4, 2) := by decide +kernel
theorem dX9_tally_17 : decode cX9_tally 17 = .ok (.iconst 0, 1) := by decide +kernel
theorem dX9_tally_18 : decode cX9_tally 18 = .ok (.istore 5, 2) := by decide +kernel
theorem dX9_tally_20 : decode cX9_tally 20 = .ok (.iload 5, 2) := by decide +kernel
theorem dX9_tally_22 : decode cX9_tally 22 = .ok (.bipush 120, 2) := by decide +kernel
theorem dX9_tally_24 : decode cX9_tally 24 = .ok (.if_icmp .ge 85, 3) := by decide +kernel
theorem dX9_tally_27 : decode cX9_tally 27 = .ok (.aload_n 0, 1) := by decide +kernel
theorem dX9_tally_28 : decode cX9_tally 28 = .ok (.getfield 9, 3) := by decide +kernel
theorem dX9_tally_31 : decode cX9_tally 31 = .ok (.bipush 115, 2) := by decide +kernel
theorem dX9_tally_33 : decode cX9_tally 33 = .ok (.iload 5, 2) := by decide +kernel
theorem dX9_tally_35 : decode cX9_tally 35 = .ok (.iadd, 1) := by decide +kernel
theorem dX9_tally_36 : decode cX9_tally 36 = .ok (.iaload, 1) := by decide +kernel
theorem dX9_tally_37 : decode cX9_tally 37 = .ok (.ifCond .ne 6, 3) := by decide +kernel
theorem dX9_tally_40 : decode cX9_tally 40 = .ok (.goto 63, 3) := by decide +kernel
theorem dX9_tally_43 : decode cX9_tally 43 = .ok (.iload 5, 2) := by decide +kernel
theorem dX9_tally_45 : decode cX9_tally 45 = .ok (.bipush 9, 2) := by decide +kernel
theorem dX9_tally_47 : decode cX9_tally 47 = .ok (.isub, 1) := by decide +kernel
theorem dX9_tally_48 : decode cX9_tally 48 = .ok (.iload_n 1, 1) := by decide +kernel
theorem dX9_tally_49 : decode cX9_tally 49 = .ok (.if_icmp .gt 18, 3) := by decide +kernel
theorem dX9_tally_52 : decode cX9_tally 52 = .ok (.iload 4, 2) := by decide +kernel
theorem dX9_tally_54 : decode cX9_tally 54 = .ok (.aload_n 0, 1) := by decide +kernel
theorem dX9_tally_55 : decode cX9_tally 55 = .ok (.getfield 9, 3) := by decide +kernel
theorem dX9_tally_58 : decode cX9_tally 58 = .ok (.bipush 115, 2) := by decide +kernel
theorem dX9_tally_60 : decode cX9_tally 60 = .ok (.iload 5, 2) := by decide +kernel
theorem dX9_tally_62 : decode cX9_tally 62 = .ok (.iadd, 1) := by decide +kernel
theorem dX9_tally_63 : decode cX9_tally 63 = .ok (.iaload, 1) := by decide +kernel
theorem dX9_tally_64 : decode cX9_tally 64 = .ok (.iadd, 1) := by decide +kernel
theorem dX9_tally_65 : decode cX9_tally 65 = .ok (.istore 4, 2) := by decide +kernel
theorem dX9_tally_67 : decode cX9_tally 67 = .ok (.iload_n 2, 1) := by decide +kernel
theorem dX9_tally_68 : decode cX9_tally 68 = .ok (.iconst 2, 1) := by decide +kernel
theorem dX9_tally_69 : decode cX9_tally 69 = .ok (.if_icmp .ge 31, 3) := by decide +kernel
theorem dX9_tally_72 : decode cX9_tally 72 = .ok (.iload_n 3, 1) := by decide +kernel
theorem dX9_tally_73 : decode cX9_tally 73 = .ok (.iload_n 1, 1) := by decide +kernel
theorem dX9_tally_74 : decode cX9_tally 74 = .ok (.if_icmp .ne 26, 3) := by decide +kernel
theorem dX9_tally_77 : decode cX9_tally 77 = .ok (.iload_n 2, 1) := by decide +kernel
theorem dX9_tally_78 : decode cX9_tally 78 = .ok (.ifCond .ne 11, 3) := by decide +kernel
theorem dX9_tally_81 : decode cX9_tally 81 = .ok (.iload 5, 2) := by decide +kernel
theorem dX9_tally_83 : decode cX9_tally 83 = .ok (.bipush 9, 2) := by decide +kernel
theorem dX9_tally_85 : decode cX9_tally 85 = .ok (.isub, 1) := by decide +kernel
theorem dX9_tally_86 : decode cX9_tally 86 = .ok (.goto 13, 3) := by decide +kernel
theorem dX9_tally_89 : decode cX9_tally 89 = .ok (.aload_n 0, 1) := by decide +kernel
theorem dX9_tally_90 : decode cX9_tally 90 = .ok (.getfield 9, 3) := by decide +kernel
theorem dX9_tally_93 : decode cX9_tally 93 = .ok (.bipush 115, 2) := by decide +kernel
theorem dX9_tally_95 : decode cX9_tally 95 = .ok (.iload 5, 2) := by decide +kernel
theorem dX9_tally_97 : decode cX9_tally 97 = .ok (.iadd, 1) := by decide +kernel
theorem dX9_tally_98 : decode cX9_tally 98 = .ok (.iaload, 1) := by decide +kernel
theorem dX9_tally_99 : decode cX9_tally 99 = .ok (.ireturn, 1) := by decide +kernel
theorem dX9_tally_100 : decode cX9_tally 100 = .ok (.iinc 3 1, 3) := by decide +kernel
theorem dX9_tally_103 : decode cX9_tally 103 = .ok (.iinc 5 1, 3) := by decide +kernel
theorem dX9_tally_106 : decode cX9_tally 106 = .ok (.goto (-86), 3) := by decide +kernel
theorem dX9_tally_109 : decode cX9_tally 109 = .ok (.iload_n 2, 1) := by decide +kernel
theorem dX9_tally_110 : decode cX9_tally 110 = .ok (.iconst 2, 1) := by decide +kernel
theorem dX9_tally_111 : decode cX9_tally 111 = .ok (.if_icmp .ne 8, 3) := by decide +kernel
theorem dX9_tally_114 : decode cX9_tally 114 = .ok (.iload 4, 2) := by decide +kernel
theorem dX9_tally_116 : decode cX9_tally 116 = .ok (.goto 14, 3) := by decide +kernel
theorem dX9_tally_119 : decode cX9_tally 119 = .ok (.iload_n 1, 1) := by decide +kernel
theorem dX9_tally_120 : decode cX9_tally 120 = .ok (.iconst (-1), 1) := by decide +kernel
theorem dX9_tally_121 : decode cX9_tally 121 = .ok (.if_icmp .ne 7, 3) := by decide +kernel
theorem dX9_tally_124 : decode cX9_tally 124 = .ok (.iload_n 3, 1) := by decide +kernel
theorem dX9_tally_125 : decode cX9_tally 125 = .ok (.goto 5, 3) := by decide +kernel
theorem dX9_tally_128 : decode cX9_tally 128 = .ok (.ldc 158, 2) := by decide +kernel
theorem dX9_tally_130 : decode cX9_tally 130 = .ok (.ireturn, 1) := by decide +kernel
theorem dX9_isBeyond_0 : decode cX9_isBeyond 0 = .ok (.lload_n 0, 1) := by decide +kernel
theorem dX9_isBeyond_1 : decode cX9_isBeyond 1 = .ok (.lconst 0, 1) := by decide +kernel
theorem dX9_isBeyond_2 : decode cX9_isBeyond 2 = .ok (.lcmp, 1) := by decide +kernel
theorem dX9_isBeyond_3 : decode cX9_isBeyond 3 = .ok (.ifCond .eq 9, 3) := by decide +kernel
theorem dX9_isBeyond_6 : decode cX9_isBeyond 6 = .ok (.lload_n 2, 1) := by decide +kernel
theorem dX9_isBeyond_7 : decode cX9_isBeyond 7 = .ok (.lconst 0, 1) := by decide +kernel
theorem dX9_isBeyond_8 : decode cX9_isBeyond 8 = .ok (.lcmp, 1) := by decide +kernel
theorem dX9_isBeyond_9 : decode cX9_isBeyond 9 = .ok (.ifCond .ne 5, 3) := by decide +kernel
theorem dX9_isBeyond_12 : decode cX9_isBeyond 12 = .ok (.iconst 0, 1) := by decide +kernel
theorem dX9_isBeyond_13 : decode cX9_isBeyond 13 = .ok (.ireturn, 1) := by decide +kernel
theorem dX9_isBeyond_14 : decode cX9_isBeyond 14 = .ok (.lload_n 0, 1) := by decide +kernel
theorem dX9_isBeyond_15 : decode cX9_isBeyond 15 = .ok (.lload_n 2, 1) := by decide +kernel
theorem dX9_isBeyond_16 : decode cX9_isBeyond 16 = .ok (.lmul, 1) := by decide +kernel
theorem dX9_isBeyond_17 : decode cX9_isBeyond 17 = .ok (.lstore 4, 2) := by decide +kernel
theorem dX9_isBeyond_19 : decode cX9_isBeyond 19 = .ok (.lload_n 0, 1) := by decide +kernel
theorem dX9_isBeyond_20 : decode cX9_isBeyond 20 = .ok (.ldc2_w 229, 3) := by decide +kernel
theorem dX9_isBeyond_23 : decode cX9_isBeyond 23 = .ok (.lcmp, 1) := by decide +kernel
theorem dX9_isBeyond_24 : decode cX9_isBeyond 24 = .ok (.ifCond .ne 11, 3) := by decide +kernel
theorem dX9_isBeyond_27 : decode cX9_isBeyond 27 = .ok (.lload_n 2, 1) := by decide +kernel
theorem dX9_isBeyond_28 : decode cX9_isBeyond 28 = .ok (.ldc2_w 231, 3) := by decide +kernel
theorem dX9_isBeyond_31 : decode cX9_isBeyond 31 = .ok (.lcmp, 1) := by decide +kernel
theorem dX9_isBeyond_32 : decode cX9_isBeyond 32 = .ok (.ifCond .eq 28, 3) := by decide +kernel
theorem dX9_isBeyond_35 : decode cX9_isBeyond 35 = .ok (.lload_n 2, 1) := by decide +kernel
theorem dX9_isBeyond_36 : decode cX9_isBeyond 36 = .ok (.ldc2_w 229, 3) := by decide +kernel
theorem dX9_isBeyond_39 : decode cX9_isBeyond 39 = .ok (.lcmp, 1) := by decide +kernel
theorem dX9_isBeyond_40 : decode cX9_isBeyond 40 = .ok (.ifCond .ne 11, 3) := by decide +kernel
theorem dX9_isBeyond_43 : decode cX9_isBeyond 43 = .ok (.lload_n 0, 1) := by decide +kernel
theorem dX9_isBeyond_44 : decode cX9_isBeyond 44 = .ok (.ldc2_w 231, 3) := by decide +kernel
theorem dX9_isBeyond_47 : decode cX9_isBeyond 47 = .ok (.lcmp, 1) := by decide +kernel
theorem dX9_isBeyond_48 : decode cX9_isBeyond 48 = .ok (.ifCond .eq 12, 3) := by decide +kernel
theorem dX9_isBeyond_51 : decode cX9_isBeyond 51 = .ok (.lload 4, 2) := by decide +kernel
theorem dX9_isBeyond_53 : decode cX9_isBeyond 53 = .ok (.lload_n 0, 1) := by decide +kernel
theorem dX9_isBeyond_54 : decode cX9_isBeyond 54 = .ok (.ldiv, 1) := by decide +kernel
theorem dX9_isBeyond_55 : decode cX9_isBeyond 55 = .ok (.lload_n 2, 1) := by decide +kernel
theorem dX9_isBeyond_56 : decode cX9_isBeyond 56 = .ok (.lcmp, 1) := by decide +kernel
theorem dX9_isBeyond_57 : decode cX9_isBeyond 57 = .ok (.ifCond .eq 7, 3) := by decide +kernel
theorem dX9_isBeyond_60 : decode cX9_isBeyond 60 = .ok (.iconst 1, 1) := by decide +kernel
theorem dX9_isBeyond_61 : decode cX9_isBeyond 61 = .ok (.goto 4, 3) := by decide +kernel
theorem dX9_isBeyond_64 : decode cX9_isBeyond 64 = .ok (.iconst 0, 1) := by decide +kernel
theorem dX9_isBeyond_65 : decode cX9_isBeyond 65 = .ok (.ireturn, 1) := by decide +kernel
theorem dX9_pays_0 : decode cX9_pays 0 = .ok (.lload_n 1, 1) := by decide +kernel
theorem dX9_pays_1 : decode cX9_pays 1 = .ok (.lload_n 3, 1) := by decide +kernel
theorem dX9_pays_2 : decode cX9_pays 2 = .ok (.invokestatic 233, 3) := by decide +kernel
theorem dX9_pays_5 : decode cX9_pays 5 = .ok (.ifCond .eq 6, 3) := by decide +kernel
theorem dX9_pays_8 : decode cX9_pays 8 = .ok (.bipush (-7), 2) := by decide +kernel
theorem dX9_pays_10 : decode cX9_pays 10 = .ok (.ireturn, 1) := by decide +kernel
theorem dX9_pays_11 : decode cX9_pays 11 = .ok (.lload_n 1, 1) := by decide +kernel
theorem dX9_pays_12 : decode cX9_pays 12 = .ok (.lload_n 3, 1) := by decide +kernel
theorem dX9_pays_13 : decode cX9_pays 13 = .ok (.lmul, 1) := by decide +kernel
theorem dX9_pays_14 : decode cX9_pays 14 = .ok (.lstore 5, 2) := by decide +kernel
theorem dX9_pays_16 : decode cX9_pays 16 = .ok (.aload_n 0, 1) := by decide +kernel
theorem dX9_pays_17 : decode cX9_pays 17 = .ok (.getfield 237, 3) := by decide +kernel
theorem dX9_pays_20 : decode cX9_pays 20 = .ok (.lload 5, 2) := by decide +kernel
theorem dX9_pays_22 : decode cX9_pays 22 = .ok (.ladd, 1) := by decide +kernel
theorem dX9_pays_23 : decode cX9_pays 23 = .ok (.lstore 7, 2) := by decide +kernel
theorem dX9_pays_25 : decode cX9_pays 25 = .ok (.aload_n 0, 1) := by decide +kernel
theorem dX9_pays_26 : decode cX9_pays 26 = .ok (.getfield 237, 3) := by decide +kernel
theorem dX9_pays_29 : decode cX9_pays 29 = .ok (.lconst 0, 1) := by decide +kernel
theorem dX9_pays_30 : decode cX9_pays 30 = .ok (.lcmp, 1) := by decide +kernel
theorem dX9_pays_31 : decode cX9_pays 31 = .ok (.ifCond .ge 7, 3) := by decide +kernel
theorem dX9_pays_34 : decode cX9_pays 34 = .ok (.iconst 1, 1) := by decide +kernel
theorem dX9_pays_35 : decode cX9_pays 35 = .ok (.goto 4, 3) := by decide +kernel
theorem dX9_pays_38 : decode cX9_pays 38 = .ok (.iconst 0, 1) := by decide +kernel
theorem dX9_pays_39 : decode cX9_pays 39 = .ok (.lload 5, 2) := by decide +kernel
theorem dX9_pays_41 : decode cX9_pays 41 = .ok (.lconst 0, 1) := by decide +kernel
theorem dX9_pays_42 : decode cX9_pays 42 = .ok (.lcmp, 1) := by decide +kernel
theorem dX9_pays_43 : decode cX9_pays 43 = .ok (.ifCond .ge 7, 3) := by decide +kernel
theorem dX9_pays_46 : decode cX9_pays 46 = .ok (.iconst 1, 1) := by decide +kernel
theorem dX9_pays_47 : decode cX9_pays 47 = .ok (.goto 4, 3) := by decide +kernel
theorem dX9_pays_50 : decode cX9_pays 50 = .ok (.iconst 0, 1) := by decide +kernel
theorem dX9_pays_51 : decode cX9_pays 51 = .ok (.if_icmp .ne 35, 3) := by decide +kernel
theorem dX9_pays_54 : decode cX9_pays 54 = .ok (.lload 7, 2) := by decide +kernel
theorem dX9_pays_56 : decode cX9_pays 56 = .ok (.lconst 0, 1) := by decide +kernel
theorem dX9_pays_57 : decode cX9_pays 57 = .ok (.lcmp, 1) := by decide +kernel
theorem dX9_pays_58 : decode cX9_pays 58 = .ok (.ifCond .ge 7, 3) := by decide +kernel
theorem dX9_pays_61 : decode cX9_pays 61 = .ok (.iconst 1, 1) := by decide +kernel
theorem dX9_pays_62 : decode cX9_pays 62 = .ok (.goto 4, 3) := by decide +kernel
theorem dX9_pays_65 : decode cX9_pays 65 = .ok (.iconst 0, 1) := by decide +kernel
theorem dX9_pays_66 : decode cX9_pays 66 = .ok (.aload_n 0, 1) := by decide +kernel
theorem dX9_pays_67 : decode cX9_pays 67 = .ok (.getfield 237, 3) := by decide +kernel
theorem dX9_pays_70 : decode cX9_pays 70 = .ok (.lconst 0, 1) := by decide +kernel
theorem dX9_pays_71 : decode cX9_pays 71 = .ok (.lcmp, 1) := by decide +kernel
theorem dX9_pays_72 : decode cX9_pays 72 = .ok (.ifCond .ge 7, 3) := by decide +kernel
theorem dX9_pays_75 : decode cX9_pays 75 = .ok (.iconst 1, 1) := by decide +kernel
theorem dX9_pays_76 : decode cX9_pays 76 = .ok (.goto 4, 3) := by decide +kernel
theorem dX9_pays_79 : decode cX9_pays 79 = .ok (.iconst 0, 1) := by decide +kernel
theorem dX9_pays_80 : decode cX9_pays 80 = .ok (.if_icmp .eq 6, 3) := by decide +kernel
theorem dX9_pays_83 : decode cX9_pays 83 = .ok (.bipush (-7), 2) := by decide +kernel
theorem dX9_pays_85 : decode cX9_pays 85 = .ok (.ireturn, 1) := by decide +kernel
theorem dX9_pays_86 : decode cX9_pays 86 = .ok (.aload_n 0, 1) := by decide +kernel
theorem dX9_pays_87 : decode cX9_pays 87 = .ok (.lload 7, 2) := by decide +kernel
theorem dX9_pays_89 : decode cX9_pays 89 = .ok (.putfield 237, 3) := by decide +kernel
theorem dX9_pays_92 : decode cX9_pays 92 = .ok (.iconst 1, 1) := by decide +kernel
theorem dX9_pays_93 : decode cX9_pays 93 = .ok (.ireturn, 1) := by decide +kernel
theorem dX9_account_0 : decode cX9_account 0 = .ok (.aload_n 0, 1) := by decide +kernel
theorem dX9_account_1 : decode cX9_account 1 = .ok (.getfield 237, 3) := by decide +kernel
theorem dX9_account_4 : decode cX9_account 4 = .ok (.lreturn, 1) := by decide +kernel
theorem dX9_image_0 : decode cX9_image 0 = .ok (.aload_n 0, 1) := by decide +kernel
theorem dX9_image_1 : decode cX9_image 1 = .ok (.iconst 1, 1) := by decide +kernel
theorem dX9_image_2 : decode cX9_image 2 = .ok (.putfield 241, 3) := by decide +kernel
theorem dX9_image_5 : decode cX9_image 5 = .ok (.aload_n 0, 1) := by decide +kernel
theorem dX9_image_6 : decode cX9_image 6 = .ok (.getfield 9, 3) := by decide +kernel
theorem dX9_image_9 : decode cX9_image 9 = .ok (.aload_n 0, 1) := by decide +kernel
theorem dX9_image_10 : decode cX9_image 10 = .ok (.getfield 15, 3) := by decide +kernel
theorem dX9_image_13 : decode cX9_image 13 = .ok (.invokestatic 105, 3) := by decide +kernel
theorem dX9_image_16 : decode cX9_image 16 = .ok (.aload_n 0, 1) := by decide +kernel
theorem dX9_image_17 : decode cX9_image 17 = .ok (.aload_n 0, 1) := by decide +kernel
theorem dX9_image_18 : decode cX9_image 18 = .ok (.getfield 237, 3) := by decide +kernel
theorem dX9_image_21 : decode cX9_image 21 = .ok (.putfield 244, 3) := by decide +kernel
theorem dX9_image_24 : decode cX9_image 24 = .ok (.aload_n 0, 1) := by decide +kernel
theorem dX9_image_25 : decode cX9_image 25 = .ok (.getfield 9, 3) := by decide +kernel
theorem dX9_image_28 : decode cX9_image 28 = .ok (.bipush 114, 2) := by decide +kernel
theorem dX9_image_30 : decode cX9_image 30 = .ok (.iaload, 1) := by decide +kernel
theorem dX9_image_31 : decode cX9_image 31 = .ok (.ireturn, 1) := by decide +kernel
theorem dX9_undo_0 : decode cX9_undo 0 = .ok (.aload_n 0, 1) := by decide +kernel
theorem dX9_undo_1 : decode cX9_undo 1 = .ok (.getfield 241, 3) := by decide +kernel
theorem dX9_undo_4 : decode cX9_undo 4 = .ok (.ifCond .ne 6, 3) := by decide +kernel
theorem dX9_undo_7 : decode cX9_undo 7 = .ok (.bipush (-5), 2) := by decide +kernel
theorem dX9_undo_9 : decode cX9_undo 9 = .ok (.ireturn, 1) := by decide +kernel
theorem dX9_undo_10 : decode cX9_undo 10 = .ok (.aload_n 0, 1) := by decide +kernel
theorem dX9_undo_11 : decode cX9_undo 11 = .ok (.getfield 15, 3) := by decide +kernel
theorem dX9_undo_14 : decode cX9_undo 14 = .ok (.aload_n 0, 1) := by decide +kernel
theorem dX9_undo_15 : decode cX9_undo 15 = .ok (.getfield 9, 3) := by decide +kernel
theorem dX9_undo_18 : decode cX9_undo 18 = .ok (.invokestatic 105, 3) := by decide +kernel
theorem dX9_undo_21 : decode cX9_undo 21 = .ok (.aload_n 0, 1) := by decide +kernel
theorem dX9_undo_22 : decode cX9_undo 22 = .ok (.aload_n 0, 1) := by decide +kernel
theorem dX9_undo_23 : decode cX9_undo 23 = .ok (.getfield 244, 3) := by decide +kernel
theorem dX9_undo_26 : decode cX9_undo 26 = .ok (.putfield 237, 3) := by decide +kernel
theorem dX9_undo_29 : decode cX9_undo 29 = .ok (.aload_n 0, 1) := by decide +kernel
theorem dX9_undo_30 : decode cX9_undo 30 = .ok (.getfield 9, 3) := by decide +kernel
theorem dX9_undo_33 : decode cX9_undo 33 = .ok (.bipush 114, 2) := by decide +kernel
theorem dX9_undo_35 : decode cX9_undo 35 = .ok (.iaload, 1) := by decide +kernel
theorem dX9_undo_36 : decode cX9_undo 36 = .ok (.ireturn, 1) := by decide +kernel
theorem dX9_count_0 : decode cX9_count 0 = .ok (.iconst 0, 1) := by decide +kernel
theorem dX9_count_1 : decode cX9_count 1 = .ok (.istore_n 2, 1) := by decide +kernel
theorem dX9_count_2 : decode cX9_count 2 = .ok (.iload_n 1, 1) := by decide +kernel
theorem dX9_count_3 : decode cX9_count 3 = .ok (.tableswitch 127 0 5 #[37, 45, 53, 58, 86, 94], 37) := by decide +kernel
theorem dX9_count_40 : decode cX9_count 40 = .ok (.aload_n 0, 1) := by decide +kernel
theorem dX9_count_41 : decode cX9_count 41 = .ok (.getfield 9, 3) := by decide +kernel
theorem dX9_count_44 : decode cX9_count 44 = .ok (.bipush 53, 2) := by decide +kernel
theorem dX9_count_46 : decode cX9_count 46 = .ok (.iaload, 1) := by decide +kernel
theorem dX9_count_47 : decode cX9_count 47 = .ok (.ireturn, 1) := by decide +kernel
theorem dX9_count_48 : decode cX9_count 48 = .ok (.aload_n 0, 1) := by decide +kernel
theorem dX9_count_49 : decode cX9_count 49 = .ok (.getfield 9, 3) := by decide +kernel
theorem dX9_count_52 : decode cX9_count 52 = .ok (.bipush 114, 2) := by decide +kernel
theorem dX9_count_54 : decode cX9_count 54 = .ok (.iaload, 1) := by decide +kernel
theorem dX9_count_55 : decode cX9_count 55 = .ok (.ireturn, 1) := by decide +kernel
theorem dX9_count_56 : decode cX9_count 56 = .ok (.aload_n 0, 1) := by decide +kernel
theorem dX9_count_57 : decode cX9_count 57 = .ok (.getfield 65, 3) := by decide +kernel
theorem dX9_count_60 : decode cX9_count 60 = .ok (.ireturn, 1) := by decide +kernel
theorem dX9_count_61 : decode cX9_count 61 = .ok (.iconst 0, 1) := by decide +kernel
theorem dX9_count_62 : decode cX9_count 62 = .ok (.istore_n 3, 1) := by decide +kernel
theorem dX9_count_63 : decode cX9_count 63 = .ok (.iload_n 3, 1) := by decide +kernel
theorem dX9_count_64 : decode cX9_count 64 = .ok (.bipush 120, 2) := by decide +kernel
theorem dX9_count_66 : decode cX9_count 66 = .ok (.if_icmp .ge 21, 3) := by decide +kernel
theorem dX9_count_69 : decode cX9_count 69 = .ok (.iload_n 2, 1) := by decide +kernel
theorem dX9_count_70 : decode cX9_count 70 = .ok (.aload_n 0, 1) := by decide +kernel
theorem dX9_count_71 : decode cX9_count 71 = .ok (.getfield 9, 3) := by decide +kernel
theorem dX9_count_74 : decode cX9_count 74 = .ok (.bipush 115, 2) := by decide +kernel
theorem dX9_count_76 : decode cX9_count 76 = .ok (.iload_n 3, 1) := by decide +kernel
theorem dX9_count_77 : decode cX9_count 77 = .ok (.iadd, 1) := by decide +kernel
theorem dX9_count_78 : decode cX9_count 78 = .ok (.iaload, 1) := by decide +kernel
theorem dX9_count_79 : decode cX9_count 79 = .ok (.iadd, 1) := by decide +kernel
theorem dX9_count_80 : decode cX9_count 80 = .ok (.istore_n 2, 1) := by decide +kernel
theorem dX9_count_81 : decode cX9_count 81 = .ok (.iinc 3 1, 3) := by decide +kernel
theorem dX9_count_84 : decode cX9_count 84 = .ok (.goto (-21), 3) := by decide +kernel
theorem dX9_count_87 : decode cX9_count 87 = .ok (.iload_n 2, 1) := by decide +kernel
theorem dX9_count_88 : decode cX9_count 88 = .ok (.ireturn, 1) := by decide +kernel
theorem dX9_count_89 : decode cX9_count 89 = .ok (.aload_n 0, 1) := by decide +kernel
theorem dX9_count_90 : decode cX9_count 90 = .ok (.getfield 9, 3) := by decide +kernel
theorem dX9_count_93 : decode cX9_count 93 = .ok (.bipush 52, 2) := by decide +kernel
theorem dX9_count_95 : decode cX9_count 95 = .ok (.iaload, 1) := by decide +kernel
theorem dX9_count_96 : decode cX9_count 96 = .ok (.ireturn, 1) := by decide +kernel
theorem dX9_count_97 : decode cX9_count 97 = .ok (.iconst 0, 1) := by decide +kernel
theorem dX9_count_98 : decode cX9_count 98 = .ok (.istore_n 3, 1) := by decide +kernel
theorem dX9_count_99 : decode cX9_count 99 = .ok (.iload_n 3, 1) := by decide +kernel
theorem dX9_count_100 : decode cX9_count 100 = .ok (.aload_n 0, 1) := by decide +kernel
theorem dX9_count_101 : decode cX9_count 101 = .ok (.getfield 9, 3) := by decide +kernel
theorem dX9_count_104 : decode cX9_count 104 = .ok (.bipush 53, 2) := by decide +kernel
theorem dX9_count_106 : decode cX9_count 106 = .ok (.iaload, 1) := by decide +kernel
theorem dX9_count_107 : decode cX9_count 107 = .ok (.if_icmp .ge 21, 3) := by decide +kernel
theorem dX9_count_110 : decode cX9_count 110 = .ok (.iload_n 2, 1) := by decide +kernel
theorem dX9_count_111 : decode cX9_count 111 = .ok (.aload_n 0, 1) := by decide +kernel
theorem dX9_count_112 : decode cX9_count 112 = .ok (.getfield 9, 3) := by decide +kernel
theorem dX9_count_115 : decode cX9_count 115 = .ok (.bipush 18, 2) := by decide +kernel
theorem dX9_count_117 : decode cX9_count 117 = .ok (.iload_n 3, 1) := by decide +kernel
theorem dX9_count_118 : decode cX9_count 118 = .ok (.iadd, 1) := by decide +kernel
theorem dX9_count_119 : decode cX9_count 119 = .ok (.iaload, 1) := by decide +kernel
theorem dX9_count_120 : decode cX9_count 120 = .ok (.iadd, 1) := by decide +kernel
theorem dX9_count_121 : decode cX9_count 121 = .ok (.istore_n 2, 1) := by decide +kernel
theorem dX9_count_122 : decode cX9_count 122 = .ok (.iinc 3 1, 3) := by decide +kernel
theorem dX9_count_125 : decode cX9_count 125 = .ok (.goto (-26), 3) := by decide +kernel
theorem dX9_count_128 : decode cX9_count 128 = .ok (.iload_n 2, 1) := by decide +kernel
theorem dX9_count_129 : decode cX9_count 129 = .ok (.ireturn, 1) := by decide +kernel
theorem dX9_count_130 : decode cX9_count 130 = .ok (.iconst (-1), 1) := by decide +kernel
theorem dX9_count_131 : decode cX9_count 131 = .ok (.ireturn, 1) := by decide +kernel
theorem dJ6_bitCount_0f7a4_0 : decode cJ6_bitCount_0f7a4 0 = .ok (.iload_n 0, 1) := by decide +kernel
theorem dJ6_bitCount_0f7a4_1 : decode cJ6_bitCount_0f7a4 1 = .ok (.iload_n 0, 1) := by decide +kernel
theorem dJ6_bitCount_0f7a4_2 : decode cJ6_bitCount_0f7a4 2 = .ok (.iconst 1, 1) := by decide +kernel
theorem dJ6_bitCount_0f7a4_3 : decode cJ6_bitCount_0f7a4 3 = .ok (.iushr, 1) := by decide +kernel
theorem dJ6_bitCount_0f7a4_4 : decode cJ6_bitCount_0f7a4 4 = .ok (.ldc_w 265, 3) := by decide +kernel
theorem dJ6_bitCount_0f7a4_7 : decode cJ6_bitCount_0f7a4 7 = .ok (.iand, 1) := by decide +kernel
theorem dJ6_bitCount_0f7a4_8 : decode cJ6_bitCount_0f7a4 8 = .ok (.isub, 1) := by decide +kernel
theorem dJ6_bitCount_0f7a4_9 : decode cJ6_bitCount_0f7a4 9 = .ok (.istore_n 0, 1) := by decide +kernel
theorem dJ6_bitCount_0f7a4_10 : decode cJ6_bitCount_0f7a4 10 = .ok (.iload_n 0, 1) := by decide +kernel
theorem dJ6_bitCount_0f7a4_11 : decode cJ6_bitCount_0f7a4 11 = .ok (.ldc_w 266, 3) := by decide +kernel
theorem dJ6_bitCount_0f7a4_14 : decode cJ6_bitCount_0f7a4 14 = .ok (.iand, 1) := by decide +kernel
theorem dJ6_bitCount_0f7a4_15 : decode cJ6_bitCount_0f7a4 15 = .ok (.iload_n 0, 1) := by decide +kernel
theorem dJ6_bitCount_0f7a4_16 : decode cJ6_bitCount_0f7a4 16 = .ok (.iconst 2, 1) := by decide +kernel
theorem dJ6_bitCount_0f7a4_17 : decode cJ6_bitCount_0f7a4 17 = .ok (.iushr, 1) := by decide +kernel
theorem dJ6_bitCount_0f7a4_18 : decode cJ6_bitCount_0f7a4 18 = .ok (.ldc_w 266, 3) := by decide +kernel
theorem dJ6_bitCount_0f7a4_21 : decode cJ6_bitCount_0f7a4 21 = .ok (.iand, 1) := by decide +kernel
theorem dJ6_bitCount_0f7a4_22 : decode cJ6_bitCount_0f7a4 22 = .ok (.iadd, 1) := by decide +kernel
theorem dJ6_bitCount_0f7a4_23 : decode cJ6_bitCount_0f7a4 23 = .ok (.istore_n 0, 1) := by decide +kernel
theorem dJ6_bitCount_0f7a4_24 : decode cJ6_bitCount_0f7a4 24 = .ok (.iload_n 0, 1) := by decide +kernel
theorem dJ6_bitCount_0f7a4_25 : decode cJ6_bitCount_0f7a4 25 = .ok (.iload_n 0, 1) := by decide +kernel
theorem dJ6_bitCount_0f7a4_26 : decode cJ6_bitCount_0f7a4 26 = .ok (.iconst 4, 1) := by decide +kernel
theorem dJ6_bitCount_0f7a4_27 : decode cJ6_bitCount_0f7a4 27 = .ok (.iushr, 1) := by decide +kernel
theorem dJ6_bitCount_0f7a4_28 : decode cJ6_bitCount_0f7a4 28 = .ok (.iadd, 1) := by decide +kernel
theorem dJ6_bitCount_0f7a4_29 : decode cJ6_bitCount_0f7a4 29 = .ok (.ldc_w 267, 3) := by decide +kernel
theorem dJ6_bitCount_0f7a4_32 : decode cJ6_bitCount_0f7a4 32 = .ok (.iand, 1) := by decide +kernel
theorem dJ6_bitCount_0f7a4_33 : decode cJ6_bitCount_0f7a4 33 = .ok (.istore_n 0, 1) := by decide +kernel
theorem dJ6_bitCount_0f7a4_34 : decode cJ6_bitCount_0f7a4 34 = .ok (.iload_n 0, 1) := by decide +kernel
theorem dJ6_bitCount_0f7a4_35 : decode cJ6_bitCount_0f7a4 35 = .ok (.iload_n 0, 1) := by decide +kernel
theorem dJ6_bitCount_0f7a4_36 : decode cJ6_bitCount_0f7a4 36 = .ok (.bipush 8, 2) := by decide +kernel
theorem dJ6_bitCount_0f7a4_38 : decode cJ6_bitCount_0f7a4 38 = .ok (.iushr, 1) := by decide +kernel
theorem dJ6_bitCount_0f7a4_39 : decode cJ6_bitCount_0f7a4 39 = .ok (.iadd, 1) := by decide +kernel
theorem dJ6_bitCount_0f7a4_40 : decode cJ6_bitCount_0f7a4 40 = .ok (.istore_n 0, 1) := by decide +kernel
theorem dJ6_bitCount_0f7a4_41 : decode cJ6_bitCount_0f7a4 41 = .ok (.iload_n 0, 1) := by decide +kernel
theorem dJ6_bitCount_0f7a4_42 : decode cJ6_bitCount_0f7a4 42 = .ok (.iload_n 0, 1) := by decide +kernel
theorem dJ6_bitCount_0f7a4_43 : decode cJ6_bitCount_0f7a4 43 = .ok (.bipush 16, 2) := by decide +kernel
theorem dJ6_bitCount_0f7a4_45 : decode cJ6_bitCount_0f7a4 45 = .ok (.iushr, 1) := by decide +kernel
theorem dJ6_bitCount_0f7a4_46 : decode cJ6_bitCount_0f7a4 46 = .ok (.iadd, 1) := by decide +kernel
theorem dJ6_bitCount_0f7a4_47 : decode cJ6_bitCount_0f7a4 47 = .ok (.istore_n 0, 1) := by decide +kernel
theorem dJ6_bitCount_0f7a4_48 : decode cJ6_bitCount_0f7a4 48 = .ok (.iload_n 0, 1) := by decide +kernel
theorem dJ6_bitCount_0f7a4_49 : decode cJ6_bitCount_0f7a4 49 = .ok (.bipush 63, 2) := by decide +kernel
theorem dJ6_bitCount_0f7a4_51 : decode cJ6_bitCount_0f7a4 51 = .ok (.iand, 1) := by decide +kernel
theorem dJ6_bitCount_0f7a4_52 : decode cJ6_bitCount_0f7a4 52 = .ok (.ireturn, 1) := by decide +kernel
theorem dJ9_max_7cf53_0 : decode cJ9_max_7cf53 0 = .ok (.iload_n 0, 1) := by decide +kernel
theorem dJ9_max_7cf53_1 : decode cJ9_max_7cf53 1 = .ok (.iload_n 1, 1) := by decide +kernel
theorem dJ9_max_7cf53_2 : decode cJ9_max_7cf53 2 = .ok (.if_icmp .lt 7, 3) := by decide +kernel
theorem dJ9_max_7cf53_5 : decode cJ9_max_7cf53 5 = .ok (.iload_n 0, 1) := by decide +kernel
theorem dJ9_max_7cf53_6 : decode cJ9_max_7cf53 6 = .ok (.goto 4, 3) := by decide +kernel
theorem dJ9_max_7cf53_9 : decode cJ9_max_7cf53 9 = .ok (.iload_n 1, 1) := by decide +kernel
theorem dJ9_max_7cf53_10 : decode cJ9_max_7cf53 10 = .ok (.ireturn, 1) := by decide +kernel
theorem dJ9_min_7cf53_0 : decode cJ9_min_7cf53 0 = .ok (.iload_n 0, 1) := by decide +kernel
theorem dJ9_min_7cf53_1 : decode cJ9_min_7cf53 1 = .ok (.iload_n 1, 1) := by decide +kernel
theorem dJ9_min_7cf53_2 : decode cJ9_min_7cf53 2 = .ok (.if_icmp .gt 7, 3) := by decide +kernel
theorem dJ9_min_7cf53_5 : decode cJ9_min_7cf53 5 = .ok (.iload_n 0, 1) := by decide +kernel
theorem dJ9_min_7cf53_6 : decode cJ9_min_7cf53 6 = .ok (.goto 4, 3) := by decide +kernel
theorem dJ9_min_7cf53_9 : decode cJ9_min_7cf53 9 = .ok (.iload_n 1, 1) := by decide +kernel
theorem dJ9_min_7cf53_10 : decode cJ9_min_7cf53 10 = .ok (.ireturn, 1) := by decide +kernel
