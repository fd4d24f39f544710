theorem dX0_init_0 : decode cX0_init 0 = .ok (.aload_n 0, 1) := by decide +kernel
theorem dX0_init_1 : decode cX0_init 1 = .ok (.invokespecial 3, 3) := by decide +kernel
theorem dX0_init_4 : decode cX0_init 4 = .ok (.aload_n 0, 1) := by decide +kernel
theorem dX0_init_5 : decode cX0_init 5 = .ok (.bipush 6, 2) := by decide +kernel
theorem dX0_init_7 : decode cX0_init 7 = .ok (.newarray .int, 2) := by decide +kernel
theorem dX0_init_9 : decode cX0_init 9 = .ok (.putfield 9, 3) := by decide +kernel
theorem dX0_init_12 : decode cX0_init 12 = .ok (.aload_n 0, 1) := by decide +kernel
theorem dX0_init_13 : decode cX0_init 13 = .ok (.bipush 6, 2) := by decide +kernel
theorem dX0_init_15 : decode cX0_init 15 = .ok (.newarray .int, 2) := by decide +kernel
theorem dX0_init_17 : decode cX0_init 17 = .ok (.putfield 15, 3) := by decide +kernel
theorem dX0_init_20 : decode cX0_init 20 = .ok (.aload_n 0, 1) := by decide +kernel
theorem dX0_init_21 : decode cX0_init 21 = .ok (.bipush 6, 2) := by decide +kernel
theorem dX0_init_23 : decode cX0_init 23 = .ok (.newarray .int, 2) := by decide +kernel
theorem dX0_init_25 : decode cX0_init 25 = .ok (.putfield 18, 3) := by decide +kernel
theorem dX0_init_28 : decode cX0_init 28 = .ok (.aload_n 0, 1) := by decide +kernel
theorem dX0_init_29 : decode cX0_init 29 = .ok (.bipush 6, 2) := by decide +kernel
theorem dX0_init_31 : decode cX0_init 31 = .ok (.newarray .boolean, 2) := by decide +kernel
theorem dX0_init_33 : decode cX0_init 33 = .ok (.putfield 21, 3) := by decide +kernel
theorem dX0_init_36 : decode cX0_init 36 = .ok (.aload_n 0, 1) := by decide +kernel
theorem dX0_init_37 : decode cX0_init 37 = .ok (.bipush 7, 2) := by decide +kernel
theorem dX0_init_39 : decode cX0_init 39 = .ok (.newarray .int, 2) := by decide +kernel
theorem dX0_init_41 : decode cX0_init 41 = .ok (.putfield 25, 3) := by decide +kernel
theorem dX0_init_44 : decode cX0_init 44 = .ok (.aload_n 0, 1) := by decide +kernel
theorem dX0_init_45 : decode cX0_init 45 = .ok (.bipush 7, 2) := by decide +kernel
theorem dX0_init_47 : decode cX0_init 47 = .ok (.newarray .int, 2) := by decide +kernel
theorem dX0_init_49 : decode cX0_init 49 = .ok (.putfield 28, 3) := by decide +kernel
theorem dX0_init_52 : decode cX0_init 52 = .ok (.aload_n 0, 1) := by decide +kernel
theorem dX0_init_53 : decode cX0_init 53 = .ok (.bipush 7, 2) := by decide +kernel
theorem dX0_init_55 : decode cX0_init 55 = .ok (.newarray .int, 2) := by decide +kernel
theorem dX0_init_57 : decode cX0_init 57 = .ok (.putfield 31, 3) := by decide +kernel
theorem dX0_init_60 : decode cX0_init 60 = .ok (.aload_n 0, 1) := by decide +kernel
theorem dX0_init_61 : decode cX0_init 61 = .ok (.bipush 7, 2) := by decide +kernel
theorem dX0_init_63 : decode cX0_init 63 = .ok (.newarray .int, 2) := by decide +kernel
theorem dX0_init_65 : decode cX0_init 65 = .ok (.putfield 34, 3) := by decide +kernel
theorem dX0_init_68 : decode cX0_init 68 = .ok (.aload_n 0, 1) := by decide +kernel
theorem dX0_init_69 : decode cX0_init 69 = .ok (.new 37, 3) := by decide +kernel
theorem dX0_init_72 : decode cX0_init 72 = .ok (.dup, 1) := by decide +kernel
theorem dX0_init_73 : decode cX0_init 73 = .ok (.invokespecial 39, 3) := by decide +kernel
theorem dX0_init_76 : decode cX0_init 76 = .ok (.putfield 40, 3) := by decide +kernel
theorem dX0_init_79 : decode cX0_init 79 = .ok (.aload_n 0, 1) := by decide +kernel
theorem dX0_init_80 : decode cX0_init 80 = .ok (.new 44, 3) := by decide +kernel
theorem dX0_init_83 : decode cX0_init 83 = .ok (.dup, 1) := by decide +kernel
theorem dX0_init_84 : decode cX0_init 84 = .ok (.invokespecial 46, 3) := by decide +kernel
theorem dX0_init_87 : decode cX0_init 87 = .ok (.putfield 47, 3) := by decide +kernel
theorem dX0_init_90 : decode cX0_init 90 = .ok (.return_, 1) := by decide +kernel
theorem dX0_reset_0 : decode cX0_reset 0 = .ok (.aload_n 0, 1) := by decide +kernel
theorem dX0_reset_1 : decode cX0_reset 1 = .ok (.iload_n 1, 1) := by decide +kernel
theorem dX0_reset_2 : decode cX0_reset 2 = .ok (.putfield 51, 3) := by decide +kernel
theorem dX0_reset_5 : decode cX0_reset 5 = .ok (.aload_n 0, 1) := by decide +kernel
theorem dX0_reset_6 : decode cX0_reset 6 = .ok (.iconst 0, 1) := by decide +kernel
theorem dX0_reset_7 : decode cX0_reset 7 = .ok (.putfield 55, 3) := by decide +kernel
theorem dX0_reset_10 : decode cX0_reset 10 = .ok (.iconst 0, 1) := by decide +kernel
theorem dX0_reset_11 : decode cX0_reset 11 = .ok (.istore_n 2, 1) := by decide +kernel
theorem dX0_reset_12 : decode cX0_reset 12 = .ok (.iload_n 2, 1) := by decide +kernel
theorem dX0_reset_13 : decode cX0_reset 13 = .ok (.bipush 6, 2) := by decide +kernel
theorem dX0_reset_15 : decode cX0_reset 15 = .ok (.if_icmp .ge 38, 3) := by decide +kernel
theorem dX0_reset_18 : decode cX0_reset 18 = .ok (.aload_n 0, 1) := by decide +kernel
theorem dX0_reset_19 : decode cX0_reset 19 = .ok (.getfield 9, 3) := by decide +kernel
theorem dX0_reset_22 : decode cX0_reset 22 = .ok (.iload_n 2, 1) := by decide +kernel
theorem dX0_reset_23 : decode cX0_reset 23 = .ok (.bipush 20, 2) := by decide +kernel
theorem dX0_reset_25 : decode cX0_reset 25 = .ok (.iastore, 1) := by decide +kernel
theorem dX0_reset_26 : decode cX0_reset 26 = .ok (.aload_n 0, 1) := by decide +kernel
theorem dX0_reset_27 : decode cX0_reset 27 = .ok (.getfield 15, 3) := by decide +kernel
theorem dX0_reset_30 : decode cX0_reset 30 = .ok (.iload_n 2, 1) := by decide +kernel
theorem dX0_reset_31 : decode cX0_reset 31 = .ok (.iconst 0, 1) := by decide +kernel
theorem dX0_reset_32 : decode cX0_reset 32 = .ok (.iastore, 1) := by decide +kernel
theorem dX0_reset_33 : decode cX0_reset 33 = .ok (.aload_n 0, 1) := by decide +kernel
theorem dX0_reset_34 : decode cX0_reset 34 = .ok (.getfield 18, 3) := by decide +kernel
theorem dX0_reset_37 : decode cX0_reset 37 = .ok (.iload_n 2, 1) := by decide +kernel
theorem dX0_reset_38 : decode cX0_reset 38 = .ok (.iconst 0, 1) := by decide +kernel
theorem dX0_reset_39 : decode cX0_reset 39 = .ok (.iastore, 1) := by decide +kernel
theorem dX0_reset_40 : decode cX0_reset 40 = .ok (.aload_n 0, 1) := by decide +kernel
theorem dX0_reset_41 : decode cX0_reset 41 = .ok (.getfield 21, 3) := by decide +kernel
theorem dX0_reset_44 : decode cX0_reset 44 = .ok (.iload_n 2, 1) := by decide +kernel
theorem dX0_reset_45 : decode cX0_reset 45 = .ok (.iconst 0, 1) := by decide +kernel
theorem dX0_reset_46 : decode cX0_reset 46 = .ok (.bastore, 1) := by decide +kernel
theorem dX0_reset_47 : decode cX0_reset 47 = .ok (.iinc 2 1, 3) := by decide +kernel
theorem dX0_reset_50 : decode cX0_reset 50 = .ok (.goto (-38), 3) := by decide +kernel
theorem dX0_reset_53 : decode cX0_reset 53 = .ok (.iconst 0, 1) := by decide +kernel
theorem dX0_reset_54 : decode cX0_reset 54 = .ok (.istore_n 2, 1) := by decide +kernel
theorem dX0_reset_55 : decode cX0_reset 55 = .ok (.iload_n 2, 1) := by decide +kernel
theorem dX0_reset_56 : decode cX0_reset 56 = .ok (.bipush 6, 2) := by decide +kernel
theorem dX0_reset_58 : decode cX0_reset 58 = .ok (.if_icmp .gt 41, 3) := by decide +kernel
theorem dX0_reset_61 : decode cX0_reset 61 = .ok (.aload_n 0, 1) := by decide +kernel
theorem dX0_reset_62 : decode cX0_reset 62 = .ok (.getfield 25, 3) := by decide +kernel
theorem dX0_reset_65 : decode cX0_reset 65 = .ok (.iload_n 2, 1) := by decide +kernel
theorem dX0_reset_66 : decode cX0_reset 66 = .ok (.sipush 500, 3) := by decide +kernel
theorem dX0_reset_69 : decode cX0_reset 69 = .ok (.iastore, 1) := by decide +kernel
theorem dX0_reset_70 : decode cX0_reset 70 = .ok (.aload_n 0, 1) := by decide +kernel
theorem dX0_reset_71 : decode cX0_reset 71 = .ok (.getfield 28, 3) := by decide +kernel
theorem dX0_reset_74 : decode cX0_reset 74 = .ok (.iload_n 2, 1) := by decide +kernel
theorem dX0_reset_75 : decode cX0_reset 75 = .ok (.iconst 0, 1) := by decide +kernel
theorem dX0_reset_76 : decode cX0_reset 76 = .ok (.iastore, 1) := by decide +kernel
theorem dX0_reset_77 : decode cX0_reset 77 = .ok (.aload_n 0, 1) := by decide +kernel
theorem dX0_reset_78 : decode cX0_reset 78 = .ok (.getfield 31, 3) := by decide +kernel
theorem dX0_reset_81 : decode cX0_reset 81 = .ok (.iload_n 2, 1) := by decide +kernel
theorem dX0_reset_82 : decode cX0_reset 82 = .ok (.sipush 9999, 3) := by decide +kernel
theorem dX0_reset_85 : decode cX0_reset 85 = .ok (.iastore, 1) := by decide +kernel
theorem dX0_reset_86 : decode cX0_reset 86 = .ok (.aload_n 0, 1) := by decide +kernel
theorem dX0_reset_87 : decode cX0_reset 87 = .ok (.getfield 34, 3) := by decide +kernel
theorem dX0_reset_90 : decode cX0_reset 90 = .ok (.iload_n 2, 1) := by decide +kernel
theorem dX0_reset_91 : decode cX0_reset 91 = .ok (.iconst 0, 1) := by decide +kernel
theorem dX0_reset_92 : decode cX0_reset 92 = .ok (.iastore, 1) := by decide +kernel
theorem dX0_reset_93 : decode cX0_reset 93 = .ok (.iinc 2 1, 3) := by decide +kernel
theorem dX0_reset_96 : decode cX0_reset 96 = .ok (.goto (-41), 3) := by decide +kernel
theorem dX0_reset_99 : decode cX0_reset 99 = .ok (.return_, 1) := by decide +kernel
theorem dX0_copyFrom_0 : decode cX0_copyFrom 0 = .ok (.aload_n 0, 1) := by decide +kernel
theorem dX0_copyFrom_1 : decode cX0_copyFrom 1 = .ok (.aload_n 1, 1) := by decide +kernel
theorem dX0_copyFrom_2 : decode cX0_copyFrom 2 = .ok (.getfield 51, 3) := by decide +kernel
theorem dX0_copyFrom_5 : decode cX0_copyFrom 5 = .ok (.putfield 51, 3) := by decide +kernel
theorem dX0_copyFrom_8 : decode cX0_copyFrom 8 = .ok (.aload_n 0, 1) := by decide +kernel
theorem dX0_copyFrom_9 : decode cX0_copyFrom 9 = .ok (.aload_n 1, 1) := by decide +kernel
theorem dX0_copyFrom_10 : decode cX0_copyFrom 10 = .ok (.getfield 55, 3) := by decide +kernel
theorem dX0_copyFrom_13 : decode cX0_copyFrom 13 = .ok (.putfield 55, 3) := by decide +kernel
theorem dX0_copyFrom_16 : decode cX0_copyFrom 16 = .ok (.aload_n 1, 1) := by decide +kernel
theorem dX0_copyFrom_17 : decode cX0_copyFrom 17 = .ok (.getfield 9, 3) := by decide +kernel
theorem dX0_copyFrom_20 : decode cX0_copyFrom 20 = .ok (.iconst 0, 1) := by decide +kernel
theorem dX0_copyFrom_21 : decode cX0_copyFrom 21 = .ok (.aload_n 0, 1) := by decide +kernel
theorem dX0_copyFrom_22 : decode cX0_copyFrom 22 = .ok (.getfield 9, 3) := by decide +kernel
theorem dX0_copyFrom_25 : decode cX0_copyFrom 25 = .ok (.iconst 0, 1) := by decide +kernel
theorem dX0_copyFrom_26 : decode cX0_copyFrom 26 = .ok (.bipush 6, 2) := by decide +kernel
theorem dX0_copyFrom_28 : decode cX0_copyFrom 28 = .ok (.invokestatic 58, 3) := by decide +kernel
theorem dX0_copyFrom_31 : decode cX0_copyFrom 31 = .ok (.aload_n 1, 1) := by decide +kernel
theorem dX0_copyFrom_32 : decode cX0_copyFrom 32 = .ok (.getfield 15, 3) := by decide +kernel
theorem dX0_copyFrom_35 : decode cX0_copyFrom 35 = .ok (.iconst 0, 1) := by decide +kernel
theorem dX0_copyFrom_36 : decode cX0_copyFrom 36 = .ok (.aload_n 0, 1) := by decide +kernel
theorem dX0_copyFrom_37 : decode cX0_copyFrom 37 = .ok (.getfield 15, 3) := by decide +kernel
theorem dX0_copyFrom_40 : decode cX0_copyFrom 40 = .ok (.iconst 0, 1) := by decide +kernel
theorem dX0_copyFrom_41 : decode cX0_copyFrom 41 = .ok (.bipush 6, 2) := by decide +kernel
theorem dX0_copyFrom_43 : decode cX0_copyFrom 43 = .ok (.invokestatic 58, 3) := by decide +kernel
theorem dX0_copyFrom_46 : decode cX0_copyFrom 46 = .ok (.aload_n 1, 1) := by decide +kernel
theorem dX0_copyFrom_47 : decode cX0_copyFrom 47 = .ok (.getfield 18, 3) := by decide +kernel
theorem dX0_copyFrom_50 : decode cX0_copyFrom 50 = .ok (.iconst 0, 1) := by decide +kernel
theorem dX0_copyFrom_51 : decode cX0_copyFrom 51 = .ok (.aload_n 0, 1) := by decide +kernel
theorem dX0_copyFrom_52 : decode cX0_copyFrom 52 = .ok (.getfield 18, 3) := by decide +kernel
theorem dX0_copyFrom_55 : decode cX0_copyFrom 55 = .ok (.iconst 0, 1) := by decide +kernel
theorem dX0_copyFrom_56 : decode cX0_copyFrom 56 = .ok (.bipush 6, 2) := by decide +kernel
theorem dX0_copyFrom_58 : decode cX0_copyFrom 58 = .ok (.invokestatic 58, 3) := by decide +kernel
theorem dX0_copyFrom_61 : decode cX0_copyFrom 61 = .ok (.aload_n 1, 1) := by decide +kernel
theorem dX0_copyFrom_62 : decode cX0_copyFrom 62 = .ok (.getfield 25, 3) := by decide +kernel
theorem dX0_copyFrom_65 : decode cX0_copyFrom 65 = .ok (.iconst 0, 1) := by decide +kernel
theorem dX0_copyFrom_66 : decode cX0_copyFrom 66 = .ok (.aload_n 0, 1) := by decide +kernel
theorem dX0_copyFrom_67 : decode cX0_copyFrom 67 = .ok (.getfield 25, 3) := by decide +kernel
theorem dX0_copyFrom_70 : decode cX0_copyFrom 70 = .ok (.iconst 0, 1) := by decide +kernel
theorem dX0_copyFrom_71 : decode cX0_copyFrom 71 = .ok (.bipush 7, 2) := by decide +kernel
theorem dX0_copyFrom_73 : decode cX0_copyFrom 73 = .ok (.invokestatic 58, 3) := by decide +kernel
theorem dX0_copyFrom_76 : decode cX0_copyFrom 76 = .ok (.aload_n 1, 1) := by decide +kernel
theorem dX0_copyFrom_77 : decode cX0_copyFrom 77 = .ok (.getfield 28, 3) := by decide +kernel
theorem dX0_copyFrom_80 : decode cX0_copyFrom 80 = .ok (.iconst 0, 1) := by decide +kernel
theorem dX0_copyFrom_81 : decode cX0_copyFrom 81 = .ok (.aload_n 0, 1) := by decide +kernel
theorem dX0_copyFrom_82 : decode cX0_copyFrom 82 = .ok (.getfield 28, 3) := by decide +kernel
theorem dX0_copyFrom_85 : decode cX0_copyFrom 85 = .ok (.iconst 0, 1) := by decide +kernel
theorem dX0_copyFrom_86 : decode cX0_copyFrom 86 = .ok (.bipush 7, 2) := by decide +kernel
theorem dX0_copyFrom_88 : decode cX0_copyFrom 88 = .ok (.invokestatic 58, 3) := by decide +kernel
theorem dX0_copyFrom_91 : decode cX0_copyFrom 91 = .ok (.aload_n 1, 1) := by decide +kernel
theorem dX0_copyFrom_92 : decode cX0_copyFrom 92 = .ok (.getfield 31, 3) := by decide +kernel
theorem dX0_copyFrom_95 : decode cX0_copyFrom 95 = .ok (.iconst 0, 1) := by decide +kernel
theorem dX0_copyFrom_96 : decode cX0_copyFrom 96 = .ok (.aload_n 0, 1) := by decide +kernel
theorem dX0_copyFrom_97 : decode cX0_copyFrom 97 = .ok (.getfield 31, 3) := by decide +kernel
theorem dX0_copyFrom_100 : decode cX0_copyFrom 100 = .ok (.iconst 0, 1) := by decide +kernel
theorem dX0_copyFrom_101 : decode cX0_copyFrom 101 = .ok (.bipush 7, 2) := by decide +kernel
theorem dX0_copyFrom_103 : decode cX0_copyFrom 103 = .ok (.invokestatic 58, 3) := by decide +kernel
theorem dX0_copyFrom_106 : decode cX0_copyFrom 106 = .ok (.aload_n 1, 1) := by decide +kernel
theorem dX0_copyFrom_107 : decode cX0_copyFrom 107 = .ok (.getfield 34, 3) := by decide +kernel
theorem dX0_copyFrom_110 : decode cX0_copyFrom 110 = .ok (.iconst 0, 1) := by decide +kernel
theorem dX0_copyFrom_111 : decode cX0_copyFrom 111 = .ok (.aload_n 0, 1) := by decide +kernel
theorem dX0_copyFrom_112 : decode cX0_copyFrom 112 = .ok (.getfield 34, 3) := by decide +kernel
theorem dX0_copyFrom_115 : decode cX0_copyFrom 115 = .ok (.iconst 0, 1) := by decide +kernel
theorem dX0_copyFrom_116 : decode cX0_copyFrom 116 = .ok (.bipush 7, 2) := by decide +kernel
theorem dX0_copyFrom_118 : decode cX0_copyFrom 118 = .ok (.invokestatic 58, 3) := by decide +kernel
theorem dX0_copyFrom_121 : decode cX0_copyFrom 121 = .ok (.iconst 0, 1) := by decide +kernel
theorem dX0_copyFrom_122 : decode cX0_copyFrom 122 = .ok (.istore_n 2, 1) := by decide +kernel
theorem dX0_copyFrom_123 : decode cX0_copyFrom 123 = .ok (.iload_n 2, 1) := by decide +kernel
theorem dX0_copyFrom_124 : decode cX0_copyFrom 124 = .ok (.bipush 6, 2) := by decide +kernel
theorem dX0_copyFrom_126 : decode cX0_copyFrom 126 = .ok (.if_icmp .ge 21, 3) := by decide +kernel
theorem dX0_copyFrom_129 : decode cX0_copyFrom 129 = .ok (.aload_n 0, 1) := by decide +kernel
theorem dX0_copyFrom_130 : decode cX0_copyFrom 130 = .ok (.getfield 21, 3) := by decide +kernel
theorem dX0_copyFrom_133 : decode cX0_copyFrom 133 = .ok (.iload_n 2, 1) := by decide +kernel
theorem dX0_copyFrom_134 : decode cX0_copyFrom 134 = .ok (.aload_n 1, 1) := by decide +kernel
theorem dX0_copyFrom_135 : decode cX0_copyFrom 135 = .ok (.getfield 21, 3) := by decide +kernel
theorem dX0_copyFrom_138 : decode cX0_copyFrom 138 = .ok (.iload_n 2, 1) := by decide +kernel
theorem dX0_copyFrom_139 : decode cX0_copyFrom 139 = .ok (.baload, 1) := by decide +kernel
theorem dX0_copyFrom_140 : decode cX0_copyFrom 140 = .ok (.bastore, 1) := by decide +kernel
theorem dX0_copyFrom_141 : decode cX0_copyFrom 141 = .ok (.iinc 2 1, 3) := by decide +kernel
theorem dX0_copyFrom_144 : decode cX0_copyFrom 144 = .ok (.goto (-21), 3) := by decide +kernel
theorem dX0_copyFrom_147 : decode cX0_copyFrom 147 = .ok (.aload_n 0, 1) := by decide +kernel
theorem dX0_copyFrom_148 : decode cX0_copyFrom 148 = .ok (.getfield 40, 3) := by decide +kernel
theorem dX0_copyFrom_151 : decode cX0_copyFrom 151 = .ok (.aload_n 1, 1) := by decide +kernel
theorem dX0_copyFrom_152 : decode cX0_copyFrom 152 = .ok (.getfield 40, 3) := by decide +kernel
theorem dX0_copyFrom_155 : decode cX0_copyFrom 155 = .ok (.invokevirtual 64, 3) := by decide +kernel
theorem dX0_copyFrom_158 : decode cX0_copyFrom 158 = .ok (.return_, 1) := by decide +kernel
theorem dX0_copyLockFrom_0 : decode cX0_copyLockFrom 0 = .ok (.aload_n 0, 1) := by decide +kernel
theorem dX0_copyLockFrom_1 : decode cX0_copyLockFrom 1 = .ok (.iload_n 2, 1) := by decide +kernel
theorem dX0_copyLockFrom_2 : decode cX0_copyLockFrom 2 = .ok (.invokevirtual 68, 3) := by decide +kernel
theorem dX0_copyLockFrom_5 : decode cX0_copyLockFrom 5 = .ok (.ifCond .ne 4, 3) := by decide +kernel
theorem dX0_copyLockFrom_8 : decode cX0_copyLockFrom 8 = .ok (.return_, 1) := by decide +kernel
theorem dX0_copyLockFrom_9 : decode cX0_copyLockFrom 9 = .ok (.aload_n 0, 1) := by decide +kernel
theorem dX0_copyLockFrom_10 : decode cX0_copyLockFrom 10 = .ok (.getfield 18, 3) := by decide +kernel
theorem dX0_copyLockFrom_13 : decode cX0_copyLockFrom 13 = .ok (.iload_n 2, 1) := by decide +kernel
theorem dX0_copyLockFrom_14 : decode cX0_copyLockFrom 14 = .ok (.aload_n 1, 1) := by decide +kernel
theorem dX0_copyLockFrom_15 : decode cX0_copyLockFrom 15 = .ok (.getfield 18, 3) := by decide +kernel
theorem dX0_copyLockFrom_18 : decode cX0_copyLockFrom 18 = .ok (.iload_n 2, 1) := by decide +kernel
theorem dX0_copyLockFrom_19 : decode cX0_copyLockFrom 19 = .ok (.iaload, 1) := by decide +kernel
theorem dX0_copyLockFrom_20 : decode cX0_copyLockFrom 20 = .ok (.iastore, 1) := by decide +kernel
theorem dX0_copyLockFrom_21 : decode cX0_copyLockFrom 21 = .ok (.aload_n 0, 1) := by decide +kernel
theorem dX0_copyLockFrom_22 : decode cX0_copyLockFrom 22 = .ok (.getfield 21, 3) := by decide +kernel
theorem dX0_copyLockFrom_25 : decode cX0_copyLockFrom 25 = .ok (.iload_n 2, 1) := by decide +kernel
theorem dX0_copyLockFrom_26 : decode cX0_copyLockFrom 26 = .ok (.aload_n 1, 1) := by decide +kernel
theorem dX0_copyLockFrom_27 : decode cX0_copyLockFrom 27 = .ok (.getfield 21, 3) := by decide +kernel
theorem dX0_copyLockFrom_30 : decode cX0_copyLockFrom 30 = .ok (.iload_n 2, 1) := by decide +kernel
theorem dX0_copyLockFrom_31 : decode cX0_copyLockFrom 31 = .ok (.baload, 1) := by decide +kernel
theorem dX0_copyLockFrom_32 : decode cX0_copyLockFrom 32 = .ok (.bastore, 1) := by decide +kernel
theorem dX0_copyLockFrom_33 : decode cX0_copyLockFrom 33 = .ok (.aload_n 0, 1) := by decide +kernel
theorem dX0_copyLockFrom_34 : decode cX0_copyLockFrom 34 = .ok (.getfield 25, 3) := by decide +kernel
theorem dX0_copyLockFrom_37 : decode cX0_copyLockFrom 37 = .ok (.iload_n 2, 1) := by decide +kernel
theorem dX0_copyLockFrom_38 : decode cX0_copyLockFrom 38 = .ok (.aload_n 1, 1) := by decide +kernel
theorem dX0_copyLockFrom_39 : decode cX0_copyLockFrom 39 = .ok (.getfield 25, 3) := by decide +kernel
theorem dX0_copyLockFrom_42 : decode cX0_copyLockFrom 42 = .ok (.iload_n 2, 1) := by decide +kernel
theorem dX0_copyLockFrom_43 : decode cX0_copyLockFrom 43 = .ok (.iaload, 1) := by decide +kernel
theorem dX0_copyLockFrom_44 : decode cX0_copyLockFrom 44 = .ok (.iastore, 1) := by decide +kernel
theorem dX0_copyLockFrom_45 : decode cX0_copyLockFrom 45 = .ok (.aload_n 0, 1) := by decide +kernel
theorem dX0_copyLockFrom_46 : decode cX0_copyLockFrom 46 = .ok (.getfield 25, 3) := by decide +kernel
theorem dX0_copyLockFrom_49 : decode cX0_copyLockFrom 49 = .ok (.iload_n 2, 1) := by decide +kernel
theorem dX0_copyLockFrom_50 : decode cX0_copyLockFrom 50 = .ok (.iconst 1, 1) := by decide +kernel
theorem dX0_copyLockFrom_51 : decode cX0_copyLockFrom 51 = .ok (.iadd, 1) := by decide +kernel
theorem dX0_copyLockFrom_52 : decode cX0_copyLockFrom 52 = .ok (.aload_n 1, 1) := by decide +kernel
theorem dX0_copyLockFrom_53 : decode cX0_copyLockFrom 53 = .ok (.getfield 25, 3) := by decide +kernel
theorem dX0_copyLockFrom_56 : decode cX0_copyLockFrom 56 = .ok (.iload_n 2, 1) := by decide +kernel
theorem dX0_copyLockFrom_57 : decode cX0_copyLockFrom 57 = .ok (.iconst 1, 1) := by decide +kernel
theorem dX0_copyLockFrom_58 : decode cX0_copyLockFrom 58 = .ok (.iadd, 1) := by decide +kernel
theorem dX0_copyLockFrom_59 : decode cX0_copyLockFrom 59 = .ok (.iaload, 1) := by decide +kernel
theorem dX0_copyLockFrom_60 : decode cX0_copyLockFrom 60 = .ok (.iastore, 1) := by decide +kernel
theorem dX0_copyLockFrom_61 : decode cX0_copyLockFrom 61 = .ok (.return_, 1) := by decide +kernel
theorem dX0_hasLock_0 : decode cX0_hasLock 0 = .ok (.iload_n 1, 1) := by decide +kernel
theorem dX0_hasLock_1 : decode cX0_hasLock 1 = .ok (.ifCond .lt 15, 3) := by decide +kernel
theorem dX0_hasLock_4 : decode cX0_hasLock 4 = .ok (.iload_n 1, 1) := by decide +kernel
theorem dX0_hasLock_5 : decode cX0_hasLock 5 = .ok (.aload_n 0, 1) := by decide +kernel
theorem dX0_hasLock_6 : decode cX0_hasLock 6 = .ok (.getfield 51, 3) := by decide +kernel
theorem dX0_hasLock_9 : decode cX0_hasLock 9 = .ok (.if_icmp .ge 7, 3) := by decide +kernel
theorem dX0_hasLock_12 : decode cX0_hasLock 12 = .ok (.iconst 1, 1) := by decide +kernel
theorem dX0_hasLock_13 : decode cX0_hasLock 13 = .ok (.goto 4, 3) := by decide +kernel
theorem dX0_hasLock_16 : decode cX0_hasLock 16 = .ok (.iconst 0, 1) := by decide +kernel
theorem dX0_hasLock_17 : decode cX0_hasLock 17 = .ok (.ireturn, 1) := by decide +kernel
theorem dX0_hasReach_0 : decode cX0_hasReach 0 = .ok (.iload_n 1, 1) := by decide +kernel
theorem dX0_hasReach_1 : decode cX0_hasReach 1 = .ok (.ifCond .lt 15, 3) := by decide +kernel
theorem dX0_hasReach_4 : decode cX0_hasReach 4 = .ok (.iload_n 1, 1) := by decide +kernel
theorem dX0_hasReach_5 : decode cX0_hasReach 5 = .ok (.aload_n 0, 1) := by decide +kernel
theorem dX0_hasReach_6 : decode cX0_hasReach 6 = .ok (.getfield 51, 3) := by decide +kernel
theorem dX0_hasReach_9 : decode cX0_hasReach 9 = .ok (.if_icmp .gt 7, 3) := by decide +kernel
theorem dX0_hasReach_12 : decode cX0_hasReach 12 = .ok (.iconst 1, 1) := by decide +kernel
theorem dX0_hasReach_13 : decode cX0_hasReach 13 = .ok (.goto 4, 3) := by decide +kernel
theorem dX0_hasReach_16 : decode cX0_hasReach 16 = .ok (.iconst 0, 1) := by decide +kernel
theorem dX0_hasReach_17 : decode cX0_hasReach 17 = .ok (.ireturn, 1) := by decide +kernel
theorem dX0_isAtRest_0 : decode cX0_isAtRest 0 = .ok (.aload_n 0, 1) := by decide +kernel
theorem dX0_isAtRest_1 : decode cX0_isAtRest 1 = .ok (.getfield 21, 3) := by decide +kernel
theorem dX0_isAtRest_4 : decode cX0_isAtRest 4 = .ok (.iload_n 1, 1) := by decide +kernel
theorem dX0_isAtRest_5 : decode cX0_isAtRest 5 = .ok (.baload, 1) := by decide +kernel
theorem dX0_isAtRest_6 : decode cX0_isAtRest 6 = .ok (.ifCond .ne 16, 3) := by decide +kernel
theorem dX0_isAtRest_9 : decode cX0_isAtRest 9 = .ok (.aload_n 0, 1) := by decide +kernel
theorem dX0_isAtRest_10 : decode cX0_isAtRest 10 = .ok (.getfield 18, 3) := by decide +kernel
theorem dX0_isAtRest_13 : decode cX0_isAtRest 13 = .ok (.iload_n 1, 1) := by decide +kernel
theorem dX0_isAtRest_14 : decode cX0_isAtRest 14 = .ok (.iaload, 1) := by decide +kernel
theorem dX0_isAtRest_15 : decode cX0_isAtRest 15 = .ok (.ifCond .ne 7, 3) := by decide +kernel
theorem dX0_isAtRest_18 : decode cX0_isAtRest 18 = .ok (.iconst 1, 1) := by decide +kernel
theorem dX0_isAtRest_19 : decode cX0_isAtRest 19 = .ok (.goto 4, 3) := by decide +kernel
theorem dX0_isAtRest_22 : decode cX0_isAtRest 22 = .ok (.iconst 0, 1) := by decide +kernel
theorem dX0_isAtRest_23 : decode cX0_isAtRest 23 = .ok (.ireturn, 1) := by decide +kernel
theorem dX0_share_0 : decode cX0_share 0 = .ok (.aload_n 0, 1) := by decide +kernel
theorem dX0_share_1 : decode cX0_share 1 = .ok (.getfield 9, 3) := by decide +kernel
theorem dX0_share_4 : decode cX0_share 4 = .ok (.iload_n 1, 1) := by decide +kernel
theorem dX0_share_5 : decode cX0_share 5 = .ok (.iaload, 1) := by decide +kernel
theorem dX0_share_6 : decode cX0_share 6 = .ok (.aload_n 0, 1) := by decide +kernel
theorem dX0_share_7 : decode cX0_share 7 = .ok (.getfield 15, 3) := by decide +kernel
theorem dX0_share_10 : decode cX0_share 10 = .ok (.iload_n 1, 1) := by decide +kernel
theorem dX0_share_11 : decode cX0_share 11 = .ok (.iaload, 1) := by decide +kernel
theorem dX0_share_12 : decode cX0_share 12 = .ok (.imul, 1) := by decide +kernel
theorem dX0_share_13 : decode cX0_share 13 = .ok (.aload_n 0, 1) := by decide +kernel
theorem dX0_share_14 : decode cX0_share 14 = .ok (.getfield 15, 3) := by decide +kernel
theorem dX0_share_17 : decode cX0_share 17 = .ok (.iload_n 1, 1) := by decide +kernel
theorem dX0_share_18 : decode cX0_share 18 = .ok (.iaload, 1) := by decide +kernel
theorem dX0_share_19 : decode cX0_share 19 = .ok (.iconst 2, 1) := by decide +kernel
theorem dX0_share_20 : decode cX0_share 20 = .ok (.iadd, 1) := by decide +kernel
theorem dX0_share_21 : decode cX0_share 21 = .ok (.idiv, 1) := by decide +kernel
theorem dX0_share_22 : decode cX0_share 22 = .ok (.ireturn, 1) := by decide +kernel
theorem dX0_lockNumber_0 : decode cX0_lockNumber 0 = .ok (.iload_n 2, 1) := by decide +kernel
theorem dX0_lockNumber_1 : decode cX0_lockNumber 1 = .ok (.tableswitch 67 0 3 #[31, 38, 45, 52], 31) := by decide +kernel
theorem dX0_lockNumber_32 : decode cX0_lockNumber 32 = .ok (.aload_n 0, 1) := by decide +kernel
theorem dX0_lockNumber_33 : decode cX0_lockNumber 33 = .ok (.getfield 9, 3) := by decide +kernel
theorem dX0_lockNumber_36 : decode cX0_lockNumber 36 = .ok (.iload_n 1, 1) := by decide +kernel
theorem dX0_lockNumber_37 : decode cX0_lockNumber 37 = .ok (.iaload, 1) := by decide +kernel
theorem dX0_lockNumber_38 : decode cX0_lockNumber 38 = .ok (.ireturn, 1) := by decide +kernel
theorem dX0_lockNumber_39 : decode cX0_lockNumber 39 = .ok (.aload_n 0, 1) := by decide +kernel
theorem dX0_lockNumber_40 : decode cX0_lockNumber 40 = .ok (.getfield 15, 3) := by decide +kernel
theorem dX0_lockNumber_43 : decode cX0_lockNumber 43 = .ok (.iload_n 1, 1) := by decide +kernel
theorem dX0_lockNumber_44 : decode cX0_lockNumber 44 = .ok (.iaload, 1) := by decide +kernel
theorem dX0_lockNumber_45 : decode cX0_lockNumber 45 = .ok (.ireturn, 1) := by decide +kernel
theorem dX0_lockNumber_46 : decode cX0_lockNumber 46 = .ok (.aload_n 0, 1) := by decide +kernel
theorem dX0_lockNumber_47 : decode cX0_lockNumber 47 = .ok (.getfield 18, 3) := by decide +kernel
theorem dX0_lockNumber_50 : decode cX0_lockNumber 50 = .ok (.iload_n 1, 1) := by decide +kernel
theorem dX0_lockNumber_51 : decode cX0_lockNumber 51 = .ok (.iaload, 1) := by decide +kernel
theorem dX0_lockNumber_52 : decode cX0_lockNumber 52 = .ok (.ireturn, 1) := by decide +kernel
theorem dX0_lockNumber_53 : decode cX0_lockNumber 53 = .ok (.aload_n 0, 1) := by decide +kernel
theorem dX0_lockNumber_54 : decode cX0_lockNumber 54 = .ok (.getfield 21, 3) := by decide +kernel
theorem dX0_lockNumber_57 : decode cX0_lockNumber 57 = .ok (.iload_n 1, 1) := by decide +kernel
theorem dX0_lockNumber_58 : decode cX0_lockNumber 58 = .ok (.baload, 1) := by decide +kernel
theorem dX0_lockNumber_59 : decode cX0_lockNumber 59 = .ok (.ifCond .eq 7, 3) := by decide +kernel
theorem dX0_lockNumber_62 : decode cX0_lockNumber 62 = .ok (.iconst 1, 1) := by decide +kernel
theorem dX0_lockNumber_63 : decode cX0_lockNumber 63 = .ok (.goto 4, 3) := by decide +kernel
theorem dX0_lockNumber_66 : decode cX0_lockNumber 66 = .ok (.iconst 0, 1) := by decide +kernel
theorem dX0_lockNumber_67 : decode cX0_lockNumber 67 = .ok (.ireturn, 1) := by decide +kernel
theorem dX0_lockNumber_68 : decode cX0_lockNumber 68 = .ok (.aload_n 0, 1) := by decide +kernel
theorem dX0_lockNumber_69 : decode cX0_lockNumber 69 = .ok (.iload_n 1, 1) := by decide +kernel
theorem dX0_lockNumber_70 : decode cX0_lockNumber 70 = .ok (.invokevirtual 72, 3) := by decide +kernel
theorem dX0_lockNumber_73 : decode cX0_lockNumber 73 = .ok (.ireturn, 1) := by decide +kernel
theorem dX0_reachNumber_0 : decode cX0_reachNumber 0 = .ok (.iload_n 2, 1) := by decide +kernel
theorem dX0_reachNumber_1 : decode cX0_reachNumber 1 = .ok (.tableswitch 48 0 2 #[27, 34, 41], 27) := by decide +kernel
theorem dX0_reachNumber_28 : decode cX0_reachNumber 28 = .ok (.aload_n 0, 1) := by decide +kernel
theorem dX0_reachNumber_29 : decode cX0_reachNumber 29 = .ok (.getfield 25, 3) := by decide +kernel
theorem dX0_reachNumber_32 : decode cX0_reachNumber 32 = .ok (.iload_n 1, 1) := by decide +kernel
theorem dX0_reachNumber_33 : decode cX0_reachNumber 33 = .ok (.iaload, 1) := by decide +kernel
theorem dX0_reachNumber_34 : decode cX0_reachNumber 34 = .ok (.ireturn, 1) := by decide +kernel
theorem dX0_reachNumber_35 : decode cX0_reachNumber 35 = .ok (.aload_n 0, 1) := by decide +kernel
theorem dX0_reachNumber_36 : decode cX0_reachNumber 36 = .ok (.getfield 28, 3) := by decide +kernel
theorem dX0_reachNumber_39 : decode cX0_reachNumber 39 = .ok (.iload_n 1, 1) := by decide +kernel
theorem dX0_reachNumber_40 : decode cX0_reachNumber 40 = .ok (.iaload, 1) := by decide +kernel
theorem dX0_reachNumber_41 : decode cX0_reachNumber 41 = .ok (.ireturn, 1) := by decide +kernel
theorem dX0_reachNumber_42 : decode cX0_reachNumber 42 = .ok (.aload_n 0, 1) := by decide +kernel
theorem dX0_reachNumber_43 : decode cX0_reachNumber 43 = .ok (.getfield 31, 3) := by decide +kernel
theorem dX0_reachNumber_46 : decode cX0_reachNumber 46 = .ok (.iload_n 1, 1) := by decide +kernel
theorem dX0_reachNumber_47 : decode cX0_reachNumber 47 = .ok (.iaload, 1) := by decide +kernel
theorem dX0_reachNumber_48 : decode cX0_reachNumber 48 = .ok (.ireturn, 1) := by decide +kernel
theorem dX0_reachNumber_49 : decode cX0_reachNumber 49 = .ok (.aload_n 0, 1) := by decide +kernel
theorem dX0_reachNumber_50 : decode cX0_reachNumber 50 = .ok (.getfield 34, 3) := by decide +kernel
theorem dX0_reachNumber_53 : decode cX0_reachNumber 53 = .ok (.iload_n 1, 1) := by decide +kernel
theorem dX0_reachNumber_54 : decode cX0_reachNumber 54 = .ok (.iaload, 1) := by decide +kernel
theorem dX0_reachNumber_55 : decode cX0_reachNumber 55 = .ok (.ireturn, 1) := by decide +kernel
theorem dX0_setReach_0 : decode cX0_setReach 0 = .ok (.iload_n 2, 1) := by decide +kernel
theorem dX0_setReach_1 : decode cX0_setReach 1 = .ok (.tableswitch 57 0 2 #[27, 37, 47], 27) := by decide +kernel
theorem dX0_setReach_28 : decode cX0_setReach 28 = .ok (.aload_n 0, 1) := by decide +kernel
theorem dX0_setReach_29 : decode cX0_setReach 29 = .ok (.getfield 25, 3) := by decide +kernel
theorem dX0_setReach_32 : decode cX0_setReach 32 = .ok (.iload_n 1, 1) := by decide +kernel
theorem dX0_setReach_33 : decode cX0_setReach 33 = .ok (.iload_n 3, 1) := by decide +kernel
theorem dX0_setReach_34 : decode cX0_setReach 34 = .ok (.iastore, 1) := by decide +kernel
theorem dX0_setReach_35 : decode cX0_setReach 35 = .ok (.goto 30, 3) := by decide +kernel
theorem dX0_setReach_38 : decode cX0_setReach 38 = .ok (.aload_n 0, 1) := by decide +kernel
theorem dX0_setReach_39 : decode cX0_setReach 39 = .ok (.getfield 28, 3) := by decide +kernel
theorem dX0_setReach_42 : decode cX0_setReach 42 = .ok (.iload_n 1, 1) := by decide +kernel
theorem dX0_setReach_43 : decode cX0_setReach 43 = .ok (.iload_n 3, 1) := by decide +kernel
theorem dX0_setReach_44 : decode cX0_setReach 44 = .ok (.iastore, 1) := by decide +kernel
theorem dX0_setReach_45 : decode cX0_setReach 45 = .ok (.goto 20, 3) := by decide +kernel
theorem dX0_setReach_48 : decode cX0_setReach 48 = .ok (.aload_n 0, 1) := by decide +kernel
theorem dX0_setReach_49 : decode cX0_setReach 49 = .ok (.getfield 31, 3) := by decide +kernel
theorem dX0_setReach_52 : decode cX0_setReach 52 = .ok (.iload_n 1, 1) := by decide +kernel
theorem dX0_setReach_53 : decode cX0_setReach 53 = .ok (.iload_n 3, 1) := by decide +kernel
theorem dX0_setReach_54 : decode cX0_setReach 54 = .ok (.iastore, 1) := by decide +kernel
theorem dX0_setReach_55 : decode cX0_setReach 55 = .ok (.goto 10, 3) := by decide +kernel
theorem dX0_setReach_58 : decode cX0_setReach 58 = .ok (.aload_n 0, 1) := by decide +kernel
theorem dX0_setReach_59 : decode cX0_setReach 59 = .ok (.getfield 34, 3) := by decide +kernel
theorem dX0_setReach_62 : decode cX0_setReach 62 = .ok (.iload_n 1, 1) := by decide +kernel
theorem dX0_setReach_63 : decode cX0_setReach 63 = .ok (.iload_n 3, 1) := by decide +kernel
theorem dX0_setReach_64 : decode cX0_setReach 64 = .ok (.iastore, 1) := by decide +kernel
theorem dX0_setReach_65 : decode cX0_setReach 65 = .ok (.return_, 1) := by decide +kernel
theorem dX0_lockFrom_0 : decode cX0_lockFrom 0 = .ok (.iload_n 1, 1) := by decide +kernel
theorem dX0_lockFrom_1 : decode cX0_lockFrom 1 = .ok (.ifCond .eq 7, 3) := by decide +kernel
theorem dX0_lockFrom_4 : decode cX0_lockFrom 4 = .ok (.iload_n 0, 1) := by decide +kernel
theorem dX0_lockFrom_5 : decode cX0_lockFrom 5 = .ok (.goto 6, 3) := by decide +kernel
theorem dX0_lockFrom_8 : decode cX0_lockFrom 8 = .ok (.iload_n 0, 1) := by decide +kernel
theorem dX0_lockFrom_9 : decode cX0_lockFrom 9 = .ok (.iconst 1, 1) := by decide +kernel
theorem dX0_lockFrom_10 : decode cX0_lockFrom 10 = .ok (.isub, 1) := by decide +kernel
theorem dX0_lockFrom_11 : decode cX0_lockFrom 11 = .ok (.ireturn, 1) := by decide +kernel
theorem dX0_passage_0 : decode cX0_passage 0 = .ok (.aload_n 0, 1) := by decide +kernel
theorem dX0_passage_1 : decode cX0_passage 1 = .ok (.iload_n 1, 1) := by decide +kernel
theorem dX0_passage_2 : decode cX0_passage 2 = .ok (.invokevirtual 68, 3) := by decide +kernel
theorem dX0_passage_5 : decode cX0_passage 5 = .ok (.ifCond .ne 6, 3) := by decide +kernel
theorem dX0_passage_8 : decode cX0_passage 8 = .ok (.ldc 76, 2) := by decide +kernel
theorem dX0_passage_10 : decode cX0_passage 10 = .ok (.ireturn, 1) := by decide +kernel
theorem dX0_passage_11 : decode cX0_passage 11 = .ok (.aload_n 0, 1) := by decide +kernel
theorem dX0_passage_12 : decode cX0_passage 12 = .ok (.getfield 25, 3) := by decide +kernel
theorem dX0_passage_15 : decode cX0_passage 15 = .ok (.iload_n 1, 1) := by decide +kernel
theorem dX0_passage_16 : decode cX0_passage 16 = .ok (.iaload, 1) := by decide +kernel
theorem dX0_passage_17 : decode cX0_passage 17 = .ok (.istore 4, 2) := by decide +kernel
theorem dX0_passage_19 : decode cX0_passage 19 = .ok (.aload_n 0, 1) := by decide +kernel
theorem dX0_passage_20 : decode cX0_passage 20 = .ok (.getfield 25, 3) := by decide +kernel
theorem dX0_passage_23 : decode cX0_passage 23 = .ok (.iload_n 1, 1) := by decide +kernel
theorem dX0_passage_24 : decode cX0_passage 24 = .ok (.iconst 1, 1) := by decide +kernel
theorem dX0_passage_25 : decode cX0_passage 25 = .ok (.iadd, 1) := by decide +kernel
theorem dX0_passage_26 : decode cX0_passage 26 = .ok (.iaload, 1) := by decide +kernel
theorem dX0_passage_27 : decode cX0_passage 27 = .ok (.istore 5, 2) := by decide +kernel
theorem dX0_passage_29 : decode cX0_passage 29 = .ok (.aload_n 0, 1) := by decide +kernel
theorem dX0_passage_30 : decode cX0_passage 30 = .ok (.getfield 18, 3) := by decide +kernel
theorem dX0_passage_33 : decode cX0_passage 33 = .ok (.iload_n 1, 1) := by decide +kernel
theorem dX0_passage_34 : decode cX0_passage 34 = .ok (.iaload, 1) := by decide +kernel
theorem dX0_passage_35 : decode cX0_passage 35 = .ok (.istore 6, 2) := by decide +kernel
theorem dX0_passage_37 : decode cX0_passage 37 = .ok (.aload_n 0, 1) := by decide +kernel
theorem dX0_passage_38 : decode cX0_passage 38 = .ok (.getfield 21, 3) := by decide +kernel
theorem dX0_passage_41 : decode cX0_passage 41 = .ok (.iload_n 1, 1) := by decide +kernel
theorem dX0_passage_42 : decode cX0_passage 42 = .ok (.baload, 1) := by decide +kernel
theorem dX0_passage_43 : decode cX0_passage 43 = .ok (.istore 7, 2) := by decide +kernel
theorem dX0_passage_45 : decode cX0_passage 45 = .ok (.iload_n 2, 1) := by decide +kernel
theorem dX0_passage_46 : decode cX0_passage 46 = .ok (.ifCond .eq 45, 3) := by decide +kernel
theorem dX0_passage_49 : decode cX0_passage 49 = .ok (.aload_n 0, 1) := by decide +kernel
theorem dX0_passage_50 : decode cX0_passage 50 = .ok (.getfield 21, 3) := by decide +kernel
theorem dX0_passage_53 : decode cX0_passage 53 = .ok (.iload_n 1, 1) := by decide +kernel
theorem dX0_passage_54 : decode cX0_passage 54 = .ok (.baload, 1) := by decide +kernel
theorem dX0_passage_55 : decode cX0_passage 55 = .ok (.ifCond .eq 11, 3) := by decide +kernel
theorem dX0_passage_58 : decode cX0_passage 58 = .ok (.aload_n 0, 1) := by decide +kernel
theorem dX0_passage_59 : decode cX0_passage 59 = .ok (.iload_n 1, 1) := by decide +kernel
theorem dX0_passage_60 : decode cX0_passage 60 = .ok (.invokevirtual 77, 3) := by decide +kernel
theorem dX0_passage_63 : decode cX0_passage 63 = .ok (.ifCond .eq 24, 3) := by decide +kernel
theorem dX0_passage_66 : decode cX0_passage 66 = .ok (.aload_n 0, 1) := by decide +kernel
theorem dX0_passage_67 : decode cX0_passage 67 = .ok (.iload_n 1, 1) := by decide +kernel
theorem dX0_passage_68 : decode cX0_passage 68 = .ok (.invokevirtual 80, 3) := by decide +kernel
theorem dX0_passage_71 : decode cX0_passage 71 = .ok (.ifCond .eq 16, 3) := by decide +kernel
theorem dX0_passage_74 : decode cX0_passage 74 = .ok (.aload_n 0, 1) := by decide +kernel
theorem dX0_passage_75 : decode cX0_passage 75 = .ok (.iload_n 1, 1) := by decide +kernel
theorem dX0_passage_76 : decode cX0_passage 76 = .ok (.iload_n 3, 1) := by decide +kernel
theorem dX0_passage_77 : decode cX0_passage 77 = .ok (.invokevirtual 83, 3) := by decide +kernel
theorem dX0_passage_80 : decode cX0_passage 80 = .ok (.ifCond .eq 7, 3) := by decide +kernel
theorem dX0_passage_83 : decode cX0_passage 83 = .ok (.iconst 1, 1) := by decide +kernel
theorem dX0_passage_84 : decode cX0_passage 84 = .ok (.goto 47, 3) := by decide +kernel
theorem dX0_passage_87 : decode cX0_passage 87 = .ok (.iconst 0, 1) := by decide +kernel
theorem dX0_passage_88 : decode cX0_passage 88 = .ok (.goto 43, 3) := by decide +kernel
theorem dX0_passage_91 : decode cX0_passage 91 = .ok (.aload_n 0, 1) := by decide +kernel
theorem dX0_passage_92 : decode cX0_passage 92 = .ok (.getfield 21, 3) := by decide +kernel
theorem dX0_passage_95 : decode cX0_passage 95 = .ok (.iload_n 1, 1) := by decide +kernel
theorem dX0_passage_96 : decode cX0_passage 96 = .ok (.baload, 1) := by decide +kernel
theorem dX0_passage_97 : decode cX0_passage 97 = .ok (.ifCond .ne 11, 3) := by decide +kernel
theorem dX0_passage_100 : decode cX0_passage 100 = .ok (.aload_n 0, 1) := by decide +kernel
theorem dX0_passage_101 : decode cX0_passage 101 = .ok (.iload_n 1, 1) := by decide +kernel
theorem dX0_passage_102 : decode cX0_passage 102 = .ok (.invokevirtual 80, 3) := by decide +kernel
theorem dX0_passage_105 : decode cX0_passage 105 = .ok (.ifCond .eq 25, 3) := by decide +kernel
theorem dX0_passage_108 : decode cX0_passage 108 = .ok (.aload_n 0, 1) := by decide +kernel
theorem dX0_passage_109 : decode cX0_passage 109 = .ok (.iload_n 1, 1) := by decide +kernel
theorem dX0_passage_110 : decode cX0_passage 110 = .ok (.invokevirtual 77, 3) := by decide +kernel
theorem dX0_passage_113 : decode cX0_passage 113 = .ok (.ifCond .eq 17, 3) := by decide +kernel
theorem dX0_passage_116 : decode cX0_passage 116 = .ok (.aload_n 0, 1) := by decide +kernel
theorem dX0_passage_117 : decode cX0_passage 117 = .ok (.iload_n 1, 1) := by decide +kernel
theorem dX0_passage_118 : decode cX0_passage 118 = .ok (.iload_n 3, 1) := by decide +kernel
theorem dX0_passage_119 : decode cX0_passage 119 = .ok (.ineg, 1) := by decide +kernel
theorem dX0_passage_120 : decode cX0_passage 120 = .ok (.invokevirtual 83, 3) := by decide +kernel
theorem dX0_passage_123 : decode cX0_passage 123 = .ok (.ifCond .eq 7, 3) := by decide +kernel
theorem dX0_passage_126 : decode cX0_passage 126 = .ok (.iconst 1, 1) := by decide +kernel
theorem dX0_passage_127 : decode cX0_passage 127 = .ok (.goto 4, 3) := by decide +kernel
theorem dX0_passage_130 : decode cX0_passage 130 = .ok (.iconst 0, 1) := by decide +kernel
theorem dX0_passage_131 : decode cX0_passage 131 = .ok (.istore 8, 2) := by decide +kernel
theorem dX0_passage_133 : decode cX0_passage 133 = .ok (.iload 8, 2) := by decide +kernel
theorem dX0_passage_135 : decode cX0_passage 135 = .ok (.ifCond .ne 40, 3) := by decide +kernel
theorem dX0_passage_138 : decode cX0_passage 138 = .ok (.aload_n 0, 1) := by decide +kernel
theorem dX0_passage_139 : decode cX0_passage 139 = .ok (.getfield 25, 3) := by decide +kernel
theorem dX0_passage_142 : decode cX0_passage 142 = .ok (.iload_n 1, 1) := by decide +kernel
theorem dX0_passage_143 : decode cX0_passage 143 = .ok (.iload 4, 2) := by decide +kernel
theorem dX0_passage_145 : decode cX0_passage 145 = .ok (.iastore, 1) := by decide +kernel
theorem dX0_passage_146 : decode cX0_passage 146 = .ok (.aload_n 0, 1) := by decide +kernel
theorem dX0_passage_147 : decode cX0_passage 147 = .ok (.getfield 25, 3) := by decide +kernel
theorem dX0_passage_150 : decode cX0_passage 150 = .ok (.iload_n 1, 1) := by decide +kernel
theorem dX0_passage_151 : decode cX0_passage 151 = .ok (.iconst 1, 1) := by decide +kernel
theorem dX0_passage_152 : decode cX0_passage 152 = .ok (.iadd, 1) := by decide +kernel
theorem dX0_passage_153 : decode cX0_passage 153 = .ok (.iload 5, 2) := by decide +kernel
theorem dX0_passage_155 : decode cX0_passage 155 = .ok (.iastore, 1) := by decide +kernel
theorem dX0_passage_156 : decode cX0_passage 156 = .ok (.aload_n 0, 1) := by decide +kernel
theorem dX0_passage_157 : decode cX0_passage 157 = .ok (.getfield 18, 3) := by decide +kernel
theorem dX0_passage_160 : decode cX0_passage 160 = .ok (.iload_n 1, 1) := by decide +kernel
theorem dX0_passage_161 : decode cX0_passage 161 = .ok (.iload 6, 2) := by decide +kernel
theorem dX0_passage_163 : decode cX0_passage 163 = .ok (.iastore, 1) := by decide +kernel
theorem dX0_passage_164 : decode cX0_passage 164 = .ok (.aload_n 0, 1) := by decide +kernel
theorem dX0_passage_165 : decode cX0_passage 165 = .ok (.getfield 21, 3) := by decide +kernel
theorem dX0_passage_168 : decode cX0_passage 168 = .ok (.iload_n 1, 1) := by decide +kernel
theorem dX0_passage_169 : decode cX0_passage 169 = .ok (.iload 7, 2) := by decide +kernel
theorem dX0_passage_171 : decode cX0_passage 171 = .ok (.bastore, 1) := by decide +kernel
theorem dX0_passage_172 : decode cX0_passage 172 = .ok (.ldc 76, 2) := by decide +kernel
theorem dX0_passage_174 : decode cX0_passage 174 = .ok (.ireturn, 1) := by decide +kernel
theorem dX0_passage_175 : decode cX0_passage 175 = .ok (.iload 5, 2) := by decide +kernel
theorem dX0_passage_177 : decode cX0_passage 177 = .ok (.aload_n 0, 1) := by decide +kernel
theorem dX0_passage_178 : decode cX0_passage 178 = .ok (.getfield 25, 3) := by decide +kernel
theorem dX0_passage_181 : decode cX0_passage 181 = .ok (.iload_n 1, 1) := by decide +kernel
theorem dX0_passage_182 : decode cX0_passage 182 = .ok (.iconst 1, 1) := by decide +kernel
theorem dX0_passage_183 : decode cX0_passage 183 = .ok (.iadd, 1) := by decide +kernel
theorem dX0_passage_184 : decode cX0_passage 184 = .ok (.iaload, 1) := by decide +kernel
theorem dX0_passage_185 : decode cX0_passage 185 = .ok (.isub, 1) := by decide +kernel
theorem dX0_passage_186 : decode cX0_passage 186 = .ok (.istore 9, 2) := by decide +kernel
theorem dX0_passage_188 : decode cX0_passage 188 = .ok (.aload_n 0, 1) := by decide +kernel
theorem dX0_passage_189 : decode cX0_passage 189 = .ok (.getfield 40, 3) := by decide +kernel
theorem dX0_passage_192 : decode cX0_passage 192 = .ok (.iload 9, 2) := by decide +kernel
theorem dX0_passage_194 : decode cX0_passage 194 = .ok (.invokevirtual 87, 3) := by decide +kernel
theorem dX0_passage_197 : decode cX0_passage 197 = .ok (.iload 9, 2) := by decide +kernel
theorem dX0_passage_199 : decode cX0_passage 199 = .ok (.ireturn, 1) := by decide +kernel
theorem dX0_fills_0 : decode cX0_fills 0 = .ok (.aload_n 0, 1) := by decide +kernel
theorem dX0_fills_1 : decode cX0_fills 1 = .ok (.getfield 9, 3) := by decide +kernel
theorem dX0_fills_4 : decode cX0_fills 4 = .ok (.iload_n 1, 1) := by decide +kernel
theorem dX0_fills_5 : decode cX0_fills 5 = .ok (.iaload, 1) := by decide +kernel
theorem dX0_fills_6 : decode cX0_fills 6 = .ok (.aload_n 0, 1) := by decide +kernel
theorem dX0_fills_7 : decode cX0_fills 7 = .ok (.getfield 18, 3) := by decide +kernel
theorem dX0_fills_10 : decode cX0_fills 10 = .ok (.iload_n 1, 1) := by decide +kernel
theorem dX0_fills_11 : decode cX0_fills 11 = .ok (.iaload, 1) := by decide +kernel
theorem dX0_fills_12 : decode cX0_fills 12 = .ok (.isub, 1) := by decide +kernel
theorem dX0_fills_13 : decode cX0_fills 13 = .ok (.istore_n 2, 1) := by decide +kernel
theorem dX0_fills_14 : decode cX0_fills 14 = .ok (.aload_n 0, 1) := by decide +kernel
theorem dX0_fills_15 : decode cX0_fills 15 = .ok (.iload_n 1, 1) := by decide +kernel
theorem dX0_fills_16 : decode cX0_fills 16 = .ok (.iconst 2, 1) := by decide +kernel
theorem dX0_fills_17 : decode cX0_fills 17 = .ok (.iload_n 1, 1) := by decide +kernel
theorem dX0_fills_18 : decode cX0_fills 18 = .ok (.iconst 1, 1) := by decide +kernel
theorem dX0_fills_19 : decode cX0_fills 19 = .ok (.iadd, 1) := by decide +kernel
theorem dX0_fills_20 : decode cX0_fills 20 = .ok (.iload_n 2, 1) := by decide +kernel
theorem dX0_fills_21 : decode cX0_fills 21 = .ok (.ineg, 1) := by decide +kernel
theorem dX0_fills_22 : decode cX0_fills 22 = .ok (.invokevirtual 91, 3) := by decide +kernel
theorem dX0_fills_25 : decode cX0_fills 25 = .ok (.ifCond .eq 5, 3) := by decide +kernel
theorem dX0_fills_28 : decode cX0_fills 28 = .ok (.iconst 0, 1) := by decide +kernel
theorem dX0_fills_29 : decode cX0_fills 29 = .ok (.ireturn, 1) := by decide +kernel
theorem dX0_fills_30 : decode cX0_fills 30 = .ok (.aload_n 0, 1) := by decide +kernel
theorem dX0_fills_31 : decode cX0_fills 31 = .ok (.getfield 25, 3) := by decide +kernel
theorem dX0_fills_34 : decode cX0_fills 34 = .ok (.iload_n 1, 1) := by decide +kernel
theorem dX0_fills_35 : decode cX0_fills 35 = .ok (.iconst 1, 1) := by decide +kernel
theorem dX0_fills_36 : decode cX0_fills 36 = .ok (.iadd, 1) := by decide +kernel
theorem dX0_fills_37 : decode cX0_fills 37 = .ok (.dup2, 1) := by decide +kernel
theorem dX0_fills_38 : decode cX0_fills 38 = .ok (.iaload, 1) := by decide +kernel
theorem dX0_fills_39 : decode cX0_fills 39 = .ok (.iload_n 2, 1) := by decide +kernel
theorem dX0_fills_40 : decode cX0_fills 40 = .ok (.isub, 1) := by decide +kernel
theorem dX0_fills_41 : decode cX0_fills 41 = .ok (.iastore, 1) := by decide +kernel
theorem dX0_fills_42 : decode cX0_fills 42 = .ok (.aload_n 0, 1) := by decide +kernel
theorem dX0_fills_43 : decode cX0_fills 43 = .ok (.getfield 18, 3) := by decide +kernel
theorem dX0_fills_46 : decode cX0_fills 46 = .ok (.iload_n 1, 1) := by decide +kernel
theorem dX0_fills_47 : decode cX0_fills 47 = .ok (.iconst 0, 1) := by decide +kernel
theorem dX0_fills_48 : decode cX0_fills 48 = .ok (.iastore, 1) := by decide +kernel
theorem dX0_fills_49 : decode cX0_fills 49 = .ok (.aload_n 0, 1) := by decide +kernel
theorem dX0_fills_50 : decode cX0_fills 50 = .ok (.getfield 21, 3) := by decide +kernel
theorem dX0_fills_53 : decode cX0_fills 53 = .ok (.iload_n 1, 1) := by decide +kernel
theorem dX0_fills_54 : decode cX0_fills 54 = .ok (.iconst 1, 1) := by decide +kernel
theorem dX0_fills_55 : decode cX0_fills 55 = .ok (.bastore, 1) := by decide +kernel
theorem dX0_fills_56 : decode cX0_fills 56 = .ok (.iconst 1, 1) := by decide +kernel
theorem dX0_fills_57 : decode cX0_fills 57 = .ok (.ireturn, 1) := by decide +kernel
theorem dX0_empties_0 : decode cX0_empties 0 = .ok (.aload_n 0, 1) := by decide +kernel
theorem dX0_empties_1 : decode cX0_empties 1 = .ok (.iload_n 1, 1) := by decide +kernel
theorem dX0_empties_2 : decode cX0_empties 2 = .ok (.invokevirtual 72, 3) := by decide +kernel
theorem dX0_empties_5 : decode cX0_empties 5 = .ok (.istore_n 2, 1) := by decide +kernel
theorem dX0_empties_6 : decode cX0_empties 6 = .ok (.aload_n 0, 1) := by decide +kernel
theorem dX0_empties_7 : decode cX0_empties 7 = .ok (.getfield 9, 3) := by decide +kernel
theorem dX0_empties_10 : decode cX0_empties 10 = .ok (.iload_n 1, 1) := by decide +kernel
theorem dX0_empties_11 : decode cX0_empties 11 = .ok (.iaload, 1) := by decide +kernel
theorem dX0_empties_12 : decode cX0_empties 12 = .ok (.iload_n 2, 1) := by decide +kernel
theorem dX0_empties_13 : decode cX0_empties 13 = .ok (.isub, 1) := by decide +kernel
theorem dX0_empties_14 : decode cX0_empties 14 = .ok (.istore_n 3, 1) := by decide +kernel
theorem dX0_empties_15 : decode cX0_empties 15 = .ok (.aload_n 0, 1) := by decide +kernel
theorem dX0_empties_16 : decode cX0_empties 16 = .ok (.iload_n 1, 1) := by decide +kernel
theorem dX0_empties_17 : decode cX0_empties 17 = .ok (.iconst 1, 1) := by decide +kernel
theorem dX0_empties_18 : decode cX0_empties 18 = .ok (.iload_n 1, 1) := by decide +kernel
theorem dX0_empties_19 : decode cX0_empties 19 = .ok (.iload_n 3, 1) := by decide +kernel
theorem dX0_empties_20 : decode cX0_empties 20 = .ok (.invokevirtual 91, 3) := by decide +kernel
theorem dX0_empties_23 : decode cX0_empties 23 = .ok (.ifCond .eq 5, 3) := by decide +kernel
theorem dX0_empties_26 : decode cX0_empties 26 = .ok (.iconst 0, 1) := by decide +kernel
theorem dX0_empties_27 : decode cX0_empties 27 = .ok (.ireturn, 1) := by decide +kernel
theorem dX0_empties_28 : decode cX0_empties 28 = .ok (.aload_n 0, 1) := by decide +kernel
theorem dX0_empties_29 : decode cX0_empties 29 = .ok (.getfield 25, 3) := by decide +kernel
theorem dX0_empties_32 : decode cX0_empties 32 = .ok (.iload_n 1, 1) := by decide +kernel
theorem dX0_empties_33 : decode cX0_empties 33 = .ok (.dup2, 1) := by decide +kernel
theorem dX0_empties_34 : decode cX0_empties 34 = .ok (.iaload, 1) := by decide +kernel
theorem dX0_empties_35 : decode cX0_empties 35 = .ok (.iload_n 3, 1) := by decide +kernel
theorem dX0_empties_36 : decode cX0_empties 36 = .ok (.iadd, 1) := by decide +kernel
theorem dX0_empties_37 : decode cX0_empties 37 = .ok (.iastore, 1) := by decide +kernel
theorem dX0_empties_38 : decode cX0_empties 38 = .ok (.aload_n 0, 1) := by decide +kernel
theorem dX0_empties_39 : decode cX0_empties 39 = .ok (.getfield 18, 3) := by decide +kernel
theorem dX0_empties_42 : decode cX0_empties 42 = .ok (.iload_n 1, 1) := by decide +kernel
theorem dX0_empties_43 : decode cX0_empties 43 = .ok (.iload_n 2, 1) := by decide +kernel
theorem dX0_empties_44 : decode cX0_empties 44 = .ok (.iastore, 1) := by decide +kernel
theorem dX0_empties_45 : decode cX0_empties 45 = .ok (.aload_n 0, 1) := by decide +kernel
theorem dX0_empties_46 : decode cX0_empties 46 = .ok (.getfield 21, 3) := by decide +kernel
theorem dX0_empties_49 : decode cX0_empties 49 = .ok (.iload_n 1, 1) := by decide +kernel
theorem dX0_empties_50 : decode cX0_empties 50 = .ok (.iconst 0, 1) := by decide +kernel
theorem dX0_empties_51 : decode cX0_empties 51 = .ok (.bastore, 1) := by decide +kernel
theorem dX0_empties_52 : decode cX0_empties 52 = .ok (.iconst 1, 1) := by decide +kernel
theorem dX0_empties_53 : decode cX0_empties 53 = .ok (.ireturn, 1) := by decide +kernel
theorem dX0_swaps_0 : decode cX0_swaps 0 = .ok (.aload_n 0, 1) := by decide +kernel
theorem dX0_swaps_1 : decode cX0_swaps 1 = .ok (.iload_n 1, 1) := by decide +kernel
theorem dX0_swaps_2 : decode cX0_swaps 2 = .ok (.iconst 3, 1) := by decide +kernel
theorem dX0_swaps_3 : decode cX0_swaps 3 = .ok (.iload_n 1, 1) := by decide +kernel
theorem dX0_swaps_4 : decode cX0_swaps 4 = .ok (.iconst 1, 1) := by decide +kernel
theorem dX0_swaps_5 : decode cX0_swaps 5 = .ok (.iadd, 1) := by decide +kernel
theorem dX0_swaps_6 : decode cX0_swaps 6 = .ok (.iload_n 2, 1) := by decide +kernel
theorem dX0_swaps_7 : decode cX0_swaps 7 = .ok (.ineg, 1) := by decide +kernel
theorem dX0_swaps_8 : decode cX0_swaps 8 = .ok (.invokevirtual 91, 3) := by decide +kernel
theorem dX0_swaps_11 : decode cX0_swaps 11 = .ok (.ifCond .ne 14, 3) := by decide +kernel
theorem dX0_swaps_14 : decode cX0_swaps 14 = .ok (.aload_n 0, 1) := by decide +kernel
theorem dX0_swaps_15 : decode cX0_swaps 15 = .ok (.iload_n 1, 1) := by decide +kernel
theorem dX0_swaps_16 : decode cX0_swaps 16 = .ok (.iconst 3, 1) := by decide +kernel
theorem dX0_swaps_17 : decode cX0_swaps 17 = .ok (.iload_n 1, 1) := by decide +kernel
theorem dX0_swaps_18 : decode cX0_swaps 18 = .ok (.iload_n 2, 1) := by decide +kernel
theorem dX0_swaps_19 : decode cX0_swaps 19 = .ok (.invokevirtual 91, 3) := by decide +kernel
theorem dX0_swaps_22 : decode cX0_swaps 22 = .ok (.ifCond .eq 5, 3) := by decide +kernel
theorem dX0_swaps_25 : decode cX0_swaps 25 = .ok (.iconst 0, 1) := by decide +kernel
theorem dX0_swaps_26 : decode cX0_swaps 26 = .ok (.ireturn, 1) := by decide +kernel
theorem dX0_swaps_27 : decode cX0_swaps 27 = .ok (.aload_n 0, 1) := by decide +kernel
theorem dX0_swaps_28 : decode cX0_swaps 28 = .ok (.getfield 25, 3) := by decide +kernel
theorem dX0_swaps_31 : decode cX0_swaps 31 = .ok (.iload_n 1, 1) := by decide +kernel
theorem dX0_swaps_32 : decode cX0_swaps 32 = .ok (.iconst 1, 1) := by decide +kernel
theorem dX0_swaps_33 : decode cX0_swaps 33 = .ok (.iadd, 1) := by decide +kernel
theorem dX0_swaps_34 : decode cX0_swaps 34 = .ok (.dup2, 1) := by decide +kernel
theorem dX0_swaps_35 : decode cX0_swaps 35 = .ok (.iaload, 1) := by decide +kernel
theorem dX0_swaps_36 : decode cX0_swaps 36 = .ok (.iload_n 2, 1) := by decide +kernel
theorem dX0_swaps_37 : decode cX0_swaps 37 = .ok (.isub, 1) := by decide +kernel
theorem dX0_swaps_38 : decode cX0_swaps 38 = .ok (.iastore, 1) := by decide +kernel
theorem dX0_swaps_39 : decode cX0_swaps 39 = .ok (.aload_n 0, 1) := by decide +kernel
theorem dX0_swaps_40 : decode cX0_swaps 40 = .ok (.getfield 25, 3) := by decide +kernel
theorem dX0_swaps_43 : decode cX0_swaps 43 = .ok (.iload_n 1, 1) := by decide +kernel
theorem dX0_swaps_44 : decode cX0_swaps 44 = .ok (.dup2, 1) := by decide +kernel
theorem dX0_swaps_45 : decode cX0_swaps 45 = .ok (.iaload, 1) := by decide +kernel
theorem dX0_swaps_46 : decode cX0_swaps 46 = .ok (.iload_n 2, 1) := by decide +kernel
theorem dX0_swaps_47 : decode cX0_swaps 47 = .ok (.iadd, 1) := by decide +kernel
theorem dX0_swaps_48 : decode cX0_swaps 48 = .ok (.iastore, 1) := by decide +kernel
theorem dX0_swaps_49 : decode cX0_swaps 49 = .ok (.iconst 1, 1) := by decide +kernel
theorem dX0_swaps_50 : decode cX0_swaps 50 = .ok (.ireturn, 1) := by decide +kernel
theorem dX0_isBarred_0 : decode cX0_isBarred 0 = .ok (.aload_n 0, 1) := by decide +kernel
theorem dX0_isBarred_1 : decode cX0_isBarred 1 = .ok (.getfield 25, 3) := by decide +kernel
theorem dX0_isBarred_4 : decode cX0_isBarred 4 = .ok (.iload_n 3, 1) := by decide +kernel
theorem dX0_isBarred_5 : decode cX0_isBarred 5 = .ok (.iaload, 1) := by decide +kernel
theorem dX0_isBarred_6 : decode cX0_isBarred 6 = .ok (.iload 4, 2) := by decide +kernel
theorem dX0_isBarred_8 : decode cX0_isBarred 8 = .ok (.iadd, 1) := by decide +kernel
theorem dX0_isBarred_9 : decode cX0_isBarred 9 = .ok (.istore 5, 2) := by decide +kernel
theorem dX0_isBarred_11 : decode cX0_isBarred 11 = .ok (.iload 5, 2) := by decide +kernel
theorem dX0_isBarred_13 : decode cX0_isBarred 13 = .ok (.aload_n 0, 1) := by decide +kernel
theorem dX0_isBarred_14 : decode cX0_isBarred 14 = .ok (.getfield 28, 3) := by decide +kernel
theorem dX0_isBarred_17 : decode cX0_isBarred 17 = .ok (.iload_n 3, 1) := by decide +kernel
theorem dX0_isBarred_18 : decode cX0_isBarred 18 = .ok (.iaload, 1) := by decide +kernel
theorem dX0_isBarred_19 : decode cX0_isBarred 19 = .ok (.if_icmp .lt 16, 3) := by decide +kernel
theorem dX0_isBarred_22 : decode cX0_isBarred 22 = .ok (.iload 5, 2) := by decide +kernel
theorem dX0_isBarred_24 : decode cX0_isBarred 24 = .ok (.aload_n 0, 1) := by decide +kernel
theorem dX0_isBarred_25 : decode cX0_isBarred 25 = .ok (.getfield 31, 3) := by decide +kernel
theorem dX0_isBarred_28 : decode cX0_isBarred 28 = .ok (.iload_n 3, 1) := by decide +kernel
theorem dX0_isBarred_29 : decode cX0_isBarred 29 = .ok (.iaload, 1) := by decide +kernel
theorem dX0_isBarred_30 : decode cX0_isBarred 30 = .ok (.if_icmp .gt 5, 3) := by decide +kernel
theorem dX0_isBarred_33 : decode cX0_isBarred 33 = .ok (.iconst 0, 1) := by decide +kernel
theorem dX0_isBarred_34 : decode cX0_isBarred 34 = .ok (.ireturn, 1) := by decide +kernel
theorem dX0_isBarred_35 : decode cX0_isBarred 35 = .ok (.aload_n 0, 1) := by decide +kernel
theorem dX0_isBarred_36 : decode cX0_isBarred 36 = .ok (.getfield 47, 3) := by decide +kernel
theorem dX0_isBarred_39 : decode cX0_isBarred 39 = .ok (.iconst 1, 1) := by decide +kernel
theorem dX0_isBarred_40 : decode cX0_isBarred 40 = .ok (.putfield 95, 3) := by decide +kernel
theorem dX0_isBarred_43 : decode cX0_isBarred 43 = .ok (.aload_n 0, 1) := by decide +kernel
theorem dX0_isBarred_44 : decode cX0_isBarred 44 = .ok (.getfield 47, 3) := by decide +kernel
theorem dX0_isBarred_47 : decode cX0_isBarred 47 = .ok (.iload_n 1, 1) := by decide +kernel
theorem dX0_isBarred_48 : decode cX0_isBarred 48 = .ok (.putfield 99, 3) := by decide +kernel
theorem dX0_isBarred_51 : decode cX0_isBarred 51 = .ok (.aload_n 0, 1) := by decide +kernel
theorem dX0_isBarred_52 : decode cX0_isBarred 52 = .ok (.getfield 47, 3) := by decide +kernel
theorem dX0_isBarred_55 : decode cX0_isBarred 55 = .ok (.iload_n 2, 1) := by decide +kernel
theorem dX0_isBarred_56 : decode cX0_isBarred 56 = .ok (.putfield 102, 3) := by decide +kernel
theorem dX0_isBarred_59 : decode cX0_isBarred 59 = .ok (.aload_n 0, 1) := by decide +kernel
theorem dX0_isBarred_60 : decode cX0_isBarred 60 = .ok (.getfield 47, 3) := by decide +kernel
theorem dX0_isBarred_63 : decode cX0_isBarred 63 = .ok (.iload_n 3, 1) := by decide +kernel
theorem dX0_isBarred_64 : decode cX0_isBarred 64 = .ok (.putfield 105, 3) := by decide +kernel
theorem dX0_isBarred_67 : decode cX0_isBarred 67 = .ok (.aload_n 0, 1) := by decide +kernel
theorem dX0_isBarred_68 : decode cX0_isBarred 68 = .ok (.getfield 47, 3) := by decide +kernel
theorem dX0_isBarred_71 : decode cX0_isBarred 71 = .ok (.iload 5, 2) := by decide +kernel
theorem dX0_isBarred_73 : decode cX0_isBarred 73 = .ok (.aload_n 0, 1) := by decide +kernel
theorem dX0_isBarred_74 : decode cX0_isBarred 74 = .ok (.getfield 28, 3) := by decide +kernel
theorem dX0_isBarred_77 : decode cX0_isBarred 77 = .ok (.iload_n 3, 1) := by decide +kernel
theorem dX0_isBarred_78 : decode cX0_isBarred 78 = .ok (.iaload, 1) := by decide +kernel
theorem dX0_isBarred_79 : decode cX0_isBarred 79 = .ok (.if_icmp .ge 7, 3) := by decide +kernel
theorem dX0_isBarred_82 : decode cX0_isBarred 82 = .ok (.iconst 1, 1) := by decide +kernel
theorem dX0_isBarred_83 : decode cX0_isBarred 83 = .ok (.goto 4, 3) := by decide +kernel
theorem dX0_isBarred_86 : decode cX0_isBarred 86 = .ok (.iconst 2, 1) := by decide +kernel
theorem dX0_isBarred_87 : decode cX0_isBarred 87 = .ok (.putfield 108, 3) := by decide +kernel
theorem dX0_isBarred_90 : decode cX0_isBarred 90 = .ok (.iconst 1, 1) := by decide +kernel
theorem dX0_isBarred_91 : decode cX0_isBarred 91 = .ok (.ireturn, 1) := by decide +kernel
theorem dX0_travel_0 : decode cX0_travel 0 = .ok (.iconst 0, 1) := by decide +kernel
theorem dX0_travel_1 : decode cX0_travel 1 = .ok (.istore 4, 2) := by decide +kernel
theorem dX0_travel_3 : decode cX0_travel 3 = .ok (.iload_n 1, 1) := by decide +kernel
theorem dX0_travel_4 : decode cX0_travel 4 = .ok (.iload_n 2, 1) := by decide +kernel
theorem dX0_travel_5 : decode cX0_travel 5 = .ok (.invokestatic 111, 3) := by decide +kernel
theorem dX0_travel_8 : decode cX0_travel 8 = .ok (.istore 5, 2) := by decide +kernel
theorem dX0_travel_10 : decode cX0_travel 10 = .ok (.aload_n 0, 1) := by decide +kernel
theorem dX0_travel_11 : decode cX0_travel 11 = .ok (.iload 5, 2) := by decide +kernel
theorem dX0_travel_13 : decode cX0_travel 13 = .ok (.invokevirtual 68, 3) := by decide +kernel
theorem dX0_travel_16 : decode cX0_travel 16 = .ok (.ifCond .eq 51, 3) := by decide +kernel
theorem dX0_travel_19 : decode cX0_travel 19 = .ok (.iload 4, 2) := by decide +kernel
theorem dX0_travel_21 : decode cX0_travel 21 = .ok (.bipush 6, 2) := by decide +kernel
theorem dX0_travel_23 : decode cX0_travel 23 = .ok (.if_icmp .ge 44, 3) := by decide +kernel
theorem dX0_travel_26 : decode cX0_travel 26 = .ok (.aload_n 0, 1) := by decide +kernel
theorem dX0_travel_27 : decode cX0_travel 27 = .ok (.iload 5, 2) := by decide +kernel
theorem dX0_travel_29 : decode cX0_travel 29 = .ok (.iload_n 2, 1) := by decide +kernel
theorem dX0_travel_30 : decode cX0_travel 30 = .ok (.iload_n 3, 1) := by decide +kernel
theorem dX0_travel_31 : decode cX0_travel 31 = .ok (.invokevirtual 115, 3) := by decide +kernel
theorem dX0_travel_34 : decode cX0_travel 34 = .ok (.ldc 76, 2) := by decide +kernel
theorem dX0_travel_36 : decode cX0_travel 36 = .ok (.if_icmp .ne 11, 3) := by decide +kernel
theorem dX0_travel_39 : decode cX0_travel 39 = .ok (.aload_n 0, 1) := by decide +kernel
theorem dX0_travel_40 : decode cX0_travel 40 = .ok (.iconst 1, 1) := by decide +kernel
theorem dX0_travel_41 : decode cX0_travel 41 = .ok (.putfield 119, 3) := by decide +kernel
theorem dX0_travel_44 : decode cX0_travel 44 = .ok (.iload 4, 2) := by decide +kernel
theorem dX0_travel_46 : decode cX0_travel 46 = .ok (.ireturn, 1) := by decide +kernel
theorem dX0_travel_47 : decode cX0_travel 47 = .ok (.iinc 4 1, 3) := by decide +kernel
theorem dX0_travel_50 : decode cX0_travel 50 = .ok (.iload 5, 2) := by decide +kernel
theorem dX0_travel_52 : decode cX0_travel 52 = .ok (.iload_n 2, 1) := by decide +kernel
theorem dX0_travel_53 : decode cX0_travel 53 = .ok (.ifCond .eq 7, 3) := by decide +kernel
theorem dX0_travel_56 : decode cX0_travel 56 = .ok (.iconst 1, 1) := by decide +kernel
theorem dX0_travel_57 : decode cX0_travel 57 = .ok (.goto 4, 3) := by decide +kernel
theorem dX0_travel_60 : decode cX0_travel 60 = .ok (.iconst (-1), 1) := by decide +kernel
theorem dX0_travel_61 : decode cX0_travel 61 = .ok (.iadd, 1) := by decide +kernel
theorem dX0_travel_62 : decode cX0_travel 62 = .ok (.istore 5, 2) := by decide +kernel
theorem dX0_travel_64 : decode cX0_travel 64 = .ok (.goto (-54), 3) := by decide +kernel
theorem dX0_travel_67 : decode cX0_travel 67 = .ok (.iload 4, 2) := by decide +kernel
theorem dX0_travel_69 : decode cX0_travel 69 = .ok (.ireturn, 1) := by decide +kernel
theorem dX0_wholeDay_0 : decode cX0_wholeDay 0 = .ok (.aload_n 0, 1) := by decide +kernel
theorem dX0_wholeDay_1 : decode cX0_wholeDay 1 = .ok (.invokevirtual 122, 3) := by decide +kernel
theorem dX0_wholeDay_4 : decode cX0_wholeDay 4 = .ok (.aload_n 0, 1) := by decide +kernel
theorem dX0_wholeDay_5 : decode cX0_wholeDay 5 = .ok (.iconst 0, 1) := by decide +kernel
theorem dX0_wholeDay_6 : decode cX0_wholeDay 6 = .ok (.putfield 119, 3) := by decide +kernel
theorem dX0_wholeDay_9 : decode cX0_wholeDay 9 = .ok (.iconst 0, 1) := by decide +kernel
theorem dX0_wholeDay_10 : decode cX0_wholeDay 10 = .ok (.istore_n 3, 1) := by decide +kernel
theorem dX0_wholeDay_11 : decode cX0_wholeDay 11 = .ok (.iconst 0, 1) := by decide +kernel
theorem dX0_wholeDay_12 : decode cX0_wholeDay 12 = .ok (.istore 4, 2) := by decide +kernel
theorem dX0_wholeDay_14 : decode cX0_wholeDay 14 = .ok (.iconst 0, 1) := by decide +kernel
theorem dX0_wholeDay_15 : decode cX0_wholeDay 15 = .ok (.istore 5, 2) := by decide +kernel
theorem dX0_wholeDay_17 : decode cX0_wholeDay 17 = .ok (.iload 4, 2) := by decide +kernel
theorem dX0_wholeDay_19 : decode cX0_wholeDay 19 = .ok (.iload 5, 2) := by decide +kernel
theorem dX0_wholeDay_21 : decode cX0_wholeDay 21 = .ok (.iadd, 1) := by decide +kernel
theorem dX0_wholeDay_22 : decode cX0_wholeDay 22 = .ok (.iload_n 1, 1) := by decide +kernel
theorem dX0_wholeDay_23 : decode cX0_wholeDay 23 = .ok (.iload_n 2, 1) := by decide +kernel
theorem dX0_wholeDay_24 : decode cX0_wholeDay 24 = .ok (.iadd, 1) := by decide +kernel
theorem dX0_wholeDay_25 : decode cX0_wholeDay 25 = .ok (.if_icmp .ge 76, 3) := by decide +kernel
theorem dX0_wholeDay_28 : decode cX0_wholeDay 28 = .ok (.aload_n 0, 1) := by decide +kernel
theorem dX0_wholeDay_29 : decode cX0_wholeDay 29 = .ok (.getfield 119, 3) := by decide +kernel
theorem dX0_wholeDay_32 : decode cX0_wholeDay 32 = .ok (.ifCond .ne 69, 3) := by decide +kernel
theorem dX0_wholeDay_35 : decode cX0_wholeDay 35 = .ok (.iload 4, 2) := by decide +kernel
theorem dX0_wholeDay_37 : decode cX0_wholeDay 37 = .ok (.iload_n 1, 1) := by decide +kernel
theorem dX0_wholeDay_38 : decode cX0_wholeDay 38 = .ok (.if_icmp .ge 20, 3) := by decide +kernel
theorem dX0_wholeDay_41 : decode cX0_wholeDay 41 = .ok (.iload 4, 2) := by decide +kernel
theorem dX0_wholeDay_43 : decode cX0_wholeDay 43 = .ok (.iload 5, 2) := by decide +kernel
theorem dX0_wholeDay_45 : decode cX0_wholeDay 45 = .ok (.if_icmp .le 9, 3) := by decide +kernel
theorem dX0_wholeDay_48 : decode cX0_wholeDay 48 = .ok (.iload 5, 2) := by decide +kernel
theorem dX0_wholeDay_50 : decode cX0_wholeDay 50 = .ok (.iload_n 2, 1) := by decide +kernel
theorem dX0_wholeDay_51 : decode cX0_wholeDay 51 = .ok (.if_icmp .lt 7, 3) := by decide +kernel
theorem dX0_wholeDay_54 : decode cX0_wholeDay 54 = .ok (.iconst 1, 1) := by decide +kernel
theorem dX0_wholeDay_55 : decode cX0_wholeDay 55 = .ok (.goto 4, 3) := by decide +kernel
theorem dX0_wholeDay_58 : decode cX0_wholeDay 58 = .ok (.iconst 0, 1) := by decide +kernel
theorem dX0_wholeDay_59 : decode cX0_wholeDay 59 = .ok (.istore 6, 2) := by decide +kernel
theorem dX0_wholeDay_61 : decode cX0_wholeDay 61 = .ok (.iload_n 3, 1) := by decide +kernel
theorem dX0_wholeDay_62 : decode cX0_wholeDay 62 = .ok (.aload_n 0, 1) := by decide +kernel
theorem dX0_wholeDay_63 : decode cX0_wholeDay 63 = .ok (.iload 6, 2) := by decide +kernel
theorem dX0_wholeDay_65 : decode cX0_wholeDay 65 = .ok (.ifCond .eq 7, 3) := by decide +kernel
theorem dX0_wholeDay_68 : decode cX0_wholeDay 68 = .ok (.iconst 0, 1) := by decide +kernel
theorem dX0_wholeDay_69 : decode cX0_wholeDay 69 = .ok (.goto 7, 3) := by decide +kernel
theorem dX0_wholeDay_72 : decode cX0_wholeDay 72 = .ok (.aload_n 0, 1) := by decide +kernel
theorem dX0_wholeDay_73 : decode cX0_wholeDay 73 = .ok (.getfield 51, 3) := by decide +kernel
theorem dX0_wholeDay_76 : decode cX0_wholeDay 76 = .ok (.iload 6, 2) := by decide +kernel
theorem dX0_wholeDay_78 : decode cX0_wholeDay 78 = .ok (.iconst 0, 1) := by decide +kernel
theorem dX0_wholeDay_79 : decode cX0_wholeDay 79 = .ok (.invokevirtual 125, 3) := by decide +kernel
theorem dX0_wholeDay_82 : decode cX0_wholeDay 82 = .ok (.iadd, 1) := by decide +kernel
theorem dX0_wholeDay_83 : decode cX0_wholeDay 83 = .ok (.istore_n 3, 1) := by decide +kernel
theorem dX0_wholeDay_84 : decode cX0_wholeDay 84 = .ok (.iload 6, 2) := by decide +kernel
theorem dX0_wholeDay_86 : decode cX0_wholeDay 86 = .ok (.ifCond .eq 9, 3) := by decide +kernel
theorem dX0_wholeDay_89 : decode cX0_wholeDay 89 = .ok (.iinc 4 1, 3) := by decide +kernel
theorem dX0_wholeDay_92 : decode cX0_wholeDay 92 = .ok (.goto 6, 3) := by decide +kernel
theorem dX0_wholeDay_95 : decode cX0_wholeDay 95 = .ok (.iinc 5 1, 3) := by decide +kernel
theorem dX0_wholeDay_98 : decode cX0_wholeDay 98 = .ok (.goto (-81), 3) := by decide +kernel
theorem dX0_wholeDay_101 : decode cX0_wholeDay 101 = .ok (.iload_n 3, 1) := by decide +kernel
theorem dX0_wholeDay_102 : decode cX0_wholeDay 102 = .ok (.ireturn, 1) := by decide +kernel
theorem dX0_loseAndGain_0 : decode cX0_loseAndGain 0 = .ok (.aload_n 0, 1) := by decide +kernel
theorem dX0_loseAndGain_1 : decode cX0_loseAndGain 1 = .ok (.getfield 51, 3) := by decide +kernel
theorem dX0_loseAndGain_4 : decode cX0_loseAndGain 4 = .ok (.istore_n 1, 1) := by decide +kernel
theorem dX0_loseAndGain_5 : decode cX0_loseAndGain 5 = .ok (.iload_n 1, 1) := by decide +kernel
theorem dX0_loseAndGain_6 : decode cX0_loseAndGain 6 = .ok (.ifCond .lt 37, 3) := by decide +kernel
theorem dX0_loseAndGain_9 : decode cX0_loseAndGain 9 = .ok (.aload_n 0, 1) := by decide +kernel
theorem dX0_loseAndGain_10 : decode cX0_loseAndGain 10 = .ok (.getfield 25, 3) := by decide +kernel
theorem dX0_loseAndGain_13 : decode cX0_loseAndGain 13 = .ok (.iload_n 1, 1) := by decide +kernel
theorem dX0_loseAndGain_14 : decode cX0_loseAndGain 14 = .ok (.aload_n 0, 1) := by decide +kernel
theorem dX0_loseAndGain_15 : decode cX0_loseAndGain 15 = .ok (.getfield 28, 3) := by decide +kernel
theorem dX0_loseAndGain_18 : decode cX0_loseAndGain 18 = .ok (.iload_n 1, 1) := by decide +kernel
theorem dX0_loseAndGain_19 : decode cX0_loseAndGain 19 = .ok (.iaload, 1) := by decide +kernel
theorem dX0_loseAndGain_20 : decode cX0_loseAndGain 20 = .ok (.aload_n 0, 1) := by decide +kernel
theorem dX0_loseAndGain_21 : decode cX0_loseAndGain 21 = .ok (.getfield 25, 3) := by decide +kernel
theorem dX0_loseAndGain_24 : decode cX0_loseAndGain 24 = .ok (.iload_n 1, 1) := by decide +kernel
theorem dX0_loseAndGain_25 : decode cX0_loseAndGain 25 = .ok (.iaload, 1) := by decide +kernel
theorem dX0_loseAndGain_26 : decode cX0_loseAndGain 26 = .ok (.aload_n 0, 1) := by decide +kernel
theorem dX0_loseAndGain_27 : decode cX0_loseAndGain 27 = .ok (.getfield 34, 3) := by decide +kernel
theorem dX0_loseAndGain_30 : decode cX0_loseAndGain 30 = .ok (.iload_n 1, 1) := by decide +kernel
theorem dX0_loseAndGain_31 : decode cX0_loseAndGain 31 = .ok (.iaload, 1) := by decide +kernel
theorem dX0_loseAndGain_32 : decode cX0_loseAndGain 32 = .ok (.isub, 1) := by decide +kernel
theorem dX0_loseAndGain_33 : decode cX0_loseAndGain 33 = .ok (.invokestatic 128, 3) := by decide +kernel
theorem dX0_loseAndGain_36 : decode cX0_loseAndGain 36 = .ok (.iastore, 1) := by decide +kernel
theorem dX0_loseAndGain_37 : decode cX0_loseAndGain 37 = .ok (.iinc 1 (-1), 3) := by decide +kernel
theorem dX0_loseAndGain_40 : decode cX0_loseAndGain 40 = .ok (.goto (-35), 3) := by decide +kernel
theorem dX0_loseAndGain_43 : decode cX0_loseAndGain 43 = .ok (.aload_n 0, 1) := by decide +kernel
theorem dX0_loseAndGain_44 : decode cX0_loseAndGain 44 = .ok (.getfield 25, 3) := by decide +kernel
theorem dX0_loseAndGain_47 : decode cX0_loseAndGain 47 = .ok (.aload_n 0, 1) := by decide +kernel
theorem dX0_loseAndGain_48 : decode cX0_loseAndGain 48 = .ok (.getfield 51, 3) := by decide +kernel
theorem dX0_loseAndGain_51 : decode cX0_loseAndGain 51 = .ok (.aload_n 0, 1) := by decide +kernel
theorem dX0_loseAndGain_52 : decode cX0_loseAndGain 52 = .ok (.getfield 31, 3) := by decide +kernel
theorem dX0_loseAndGain_55 : decode cX0_loseAndGain 55 = .ok (.aload_n 0, 1) := by decide +kernel
theorem dX0_loseAndGain_56 : decode cX0_loseAndGain 56 = .ok (.getfield 51, 3) := by decide +kernel
theorem dX0_loseAndGain_59 : decode cX0_loseAndGain 59 = .ok (.iaload, 1) := by decide +kernel
theorem dX0_loseAndGain_60 : decode cX0_loseAndGain 60 = .ok (.aload_n 0, 1) := by decide +kernel
theorem dX0_loseAndGain_61 : decode cX0_loseAndGain 61 = .ok (.getfield 25, 3) := by decide +kernel
theorem dX0_loseAndGain_64 : decode cX0_loseAndGain 64 = .ok (.aload_n 0, 1) := by decide +kernel
theorem dX0_loseAndGain_65 : decode cX0_loseAndGain 65 = .ok (.getfield 51, 3) := by decide +kernel
theorem dX0_loseAndGain_68 : decode cX0_loseAndGain 68 = .ok (.iaload, 1) := by decide +kernel
theorem dX0_loseAndGain_69 : decode cX0_loseAndGain 69 = .ok (.aload_n 0, 1) := by decide +kernel
theorem dX0_loseAndGain_70 : decode cX0_loseAndGain 70 = .ok (.getfield 55, 3) := by decide +kernel
theorem dX0_loseAndGain_73 : decode cX0_loseAndGain 73 = .ok (.iadd, 1) := by decide +kernel
theorem dX0_loseAndGain_74 : decode cX0_loseAndGain 74 = .ok (.invokestatic 134, 3) := by decide +kernel
theorem dX0_loseAndGain_77 : decode cX0_loseAndGain 77 = .ok (.iastore, 1) := by decide +kernel
theorem dX0_loseAndGain_78 : decode cX0_loseAndGain 78 = .ok (.return_, 1) := by decide +kernel
theorem dX0_summitWater_0 : decode cX0_summitWater 0 = .ok (.aload_n 0, 1) := by decide +kernel
theorem dX0_summitWater_1 : decode cX0_summitWater 1 = .ok (.getfield 25, 3) := by decide +kernel
theorem dX0_summitWater_4 : decode cX0_summitWater 4 = .ok (.aload_n 0, 1) := by decide +kernel
theorem dX0_summitWater_5 : decode cX0_summitWater 5 = .ok (.getfield 51, 3) := by decide +kernel
theorem dX0_summitWater_8 : decode cX0_summitWater 8 = .ok (.iaload, 1) := by decide +kernel
theorem dX0_summitWater_9 : decode cX0_summitWater 9 = .ok (.ireturn, 1) := by decide +kernel
theorem dX0_allWater_0 : decode cX0_allWater 0 = .ok (.iconst 0, 1) := by decide +kernel
theorem dX0_allWater_1 : decode cX0_allWater 1 = .ok (.istore_n 1, 1) := by decide +kernel
theorem dX0_allWater_2 : decode cX0_allWater 2 = .ok (.iconst 0, 1) := by decide +kernel
theorem dX0_allWater_3 : decode cX0_allWater 3 = .ok (.istore_n 2, 1) := by decide +kernel
theorem dX0_allWater_4 : decode cX0_allWater 4 = .ok (.iload_n 2, 1) := by decide +kernel
theorem dX0_allWater_5 : decode cX0_allWater 5 = .ok (.aload_n 0, 1) := by decide +kernel
theorem dX0_allWater_6 : decode cX0_allWater 6 = .ok (.getfield 51, 3) := by decide +kernel
theorem dX0_allWater_9 : decode cX0_allWater 9 = .ok (.if_icmp .gt 18, 3) := by decide +kernel
theorem dX0_allWater_12 : decode cX0_allWater 12 = .ok (.iload_n 1, 1) := by decide +kernel
theorem dX0_allWater_13 : decode cX0_allWater 13 = .ok (.aload_n 0, 1) := by decide +kernel
theorem dX0_allWater_14 : decode cX0_allWater 14 = .ok (.getfield 25, 3) := by decide +kernel
theorem dX0_allWater_17 : decode cX0_allWater 17 = .ok (.iload_n 2, 1) := by decide +kernel
theorem dX0_allWater_18 : decode cX0_allWater 18 = .ok (.iaload, 1) := by decide +kernel
theorem dX0_allWater_19 : decode cX0_allWater 19 = .ok (.iadd, 1) := by decide +kernel
theorem dX0_allWater_20 : decode cX0_allWater 20 = .ok (.istore_n 1, 1) := by decide +kernel
theorem dX0_allWater_21 : decode cX0_allWater 21 = .ok (.iinc 2 1, 3) := by decide +kernel
theorem dX0_allWater_24 : decode cX0_allWater 24 = .ok (.goto (-20), 3) := by decide +kernel
theorem dX0_allWater_27 : decode cX0_allWater 27 = .ok (.iconst 0, 1) := by decide +kernel
theorem dX0_allWater_28 : decode cX0_allWater 28 = .ok (.istore_n 2, 1) := by decide +kernel
theorem dX0_allWater_29 : decode cX0_allWater 29 = .ok (.iload_n 2, 1) := by decide +kernel
theorem dX0_allWater_30 : decode cX0_allWater 30 = .ok (.aload_n 0, 1) := by decide +kernel
theorem dX0_allWater_31 : decode cX0_allWater 31 = .ok (.getfield 51, 3) := by decide +kernel
theorem dX0_allWater_34 : decode cX0_allWater 34 = .ok (.if_icmp .ge 38, 3) := by decide +kernel
theorem dX0_allWater_37 : decode cX0_allWater 37 = .ok (.iload_n 1, 1) := by decide +kernel
theorem dX0_allWater_38 : decode cX0_allWater 38 = .ok (.aload_n 0, 1) := by decide +kernel
theorem dX0_allWater_39 : decode cX0_allWater 39 = .ok (.getfield 18, 3) := by decide +kernel
theorem dX0_allWater_42 : decode cX0_allWater 42 = .ok (.iload_n 2, 1) := by decide +kernel
theorem dX0_allWater_43 : decode cX0_allWater 43 = .ok (.iaload, 1) := by decide +kernel
theorem dX0_allWater_44 : decode cX0_allWater 44 = .ok (.aload_n 0, 1) := by decide +kernel
theorem dX0_allWater_45 : decode cX0_allWater 45 = .ok (.getfield 21, 3) := by decide +kernel
theorem dX0_allWater_48 : decode cX0_allWater 48 = .ok (.iload_n 2, 1) := by decide +kernel
theorem dX0_allWater_49 : decode cX0_allWater 49 = .ok (.baload, 1) := by decide +kernel
theorem dX0_allWater_50 : decode cX0_allWater 50 = .ok (.ifCond .eq 12, 3) := by decide +kernel
theorem dX0_allWater_53 : decode cX0_allWater 53 = .ok (.aload_n 0, 1) := by decide +kernel
theorem dX0_allWater_54 : decode cX0_allWater 54 = .ok (.getfield 9, 3) := by decide +kernel
theorem dX0_allWater_57 : decode cX0_allWater 57 = .ok (.iload_n 2, 1) := by decide +kernel
theorem dX0_allWater_58 : decode cX0_allWater 58 = .ok (.iaload, 1) := by decide +kernel
theorem dX0_allWater_59 : decode cX0_allWater 59 = .ok (.goto 4, 3) := by decide +kernel
theorem dX0_allWater_62 : decode cX0_allWater 62 = .ok (.iconst 0, 1) := by decide +kernel
theorem dX0_allWater_63 : decode cX0_allWater 63 = .ok (.iadd, 1) := by decide +kernel
theorem dX0_allWater_64 : decode cX0_allWater 64 = .ok (.iadd, 1) := by decide +kernel
theorem dX0_allWater_65 : decode cX0_allWater 65 = .ok (.istore_n 1, 1) := by decide +kernel
theorem dX0_allWater_66 : decode cX0_allWater 66 = .ok (.iinc 2 1, 3) := by decide +kernel
theorem dX0_allWater_69 : decode cX0_allWater 69 = .ok (.goto (-40), 3) := by decide +kernel
theorem dX0_allWater_72 : decode cX0_allWater 72 = .ok (.iload_n 1, 1) := by decide +kernel
theorem dX0_allWater_73 : decode cX0_allWater 73 = .ok (.ireturn, 1) := by decide +kernel
theorem dX0_leastLevelOver_0 : decode cX0_leastLevelOver 0 = .ok (.iconst (-1), 1) := by decide +kernel
theorem dX0_leastLevelOver_1 : decode cX0_leastLevelOver 1 = .ok (.istore_n 2, 1) := by decide +kernel
theorem dX0_leastLevelOver_2 : decode cX0_leastLevelOver 2 = .ok (.iconst 0, 1) := by decide +kernel
theorem dX0_leastLevelOver_3 : decode cX0_leastLevelOver 3 = .ok (.istore_n 3, 1) := by decide +kernel
theorem dX0_leastLevelOver_4 : decode cX0_leastLevelOver 4 = .ok (.iload_n 3, 1) := by decide +kernel
theorem dX0_leastLevelOver_5 : decode cX0_leastLevelOver 5 = .ok (.aload_n 0, 1) := by decide +kernel
theorem dX0_leastLevelOver_6 : decode cX0_leastLevelOver 6 = .ok (.getfield 51, 3) := by decide +kernel
theorem dX0_leastLevelOver_9 : decode cX0_leastLevelOver 9 = .ok (.if_icmp .gt 40, 3) := by decide +kernel
theorem dX0_leastLevelOver_12 : decode cX0_leastLevelOver 12 = .ok (.aload_n 0, 1) := by decide +kernel
theorem dX0_leastLevelOver_13 : decode cX0_leastLevelOver 13 = .ok (.getfield 25, 3) := by decide +kernel
theorem dX0_leastLevelOver_16 : decode cX0_leastLevelOver 16 = .ok (.iload_n 3, 1) := by decide +kernel
theorem dX0_leastLevelOver_17 : decode cX0_leastLevelOver 17 = .ok (.iaload, 1) := by decide +kernel
theorem dX0_leastLevelOver_18 : decode cX0_leastLevelOver 18 = .ok (.iload_n 1, 1) := by decide +kernel
theorem dX0_leastLevelOver_19 : decode cX0_leastLevelOver 19 = .ok (.if_icmp .le 24, 3) := by decide +kernel
theorem dX0_leastLevelOver_22 : decode cX0_leastLevelOver 22 = .ok (.iload_n 2, 1) := by decide +kernel
theorem dX0_leastLevelOver_23 : decode cX0_leastLevelOver 23 = .ok (.ifCond .lt 13, 3) := by decide +kernel
theorem dX0_leastLevelOver_26 : decode cX0_leastLevelOver 26 = .ok (.aload_n 0, 1) := by decide +kernel
theorem dX0_leastLevelOver_27 : decode cX0_leastLevelOver 27 = .ok (.getfield 25, 3) := by decide +kernel
theorem dX0_leastLevelOver_30 : decode cX0_leastLevelOver 30 = .ok (.iload_n 3, 1) := by decide +kernel
theorem dX0_leastLevelOver_31 : decode cX0_leastLevelOver 31 = .ok (.iaload, 1) := by decide +kernel
theorem dX0_leastLevelOver_32 : decode cX0_leastLevelOver 32 = .ok (.iload_n 2, 1) := by decide +kernel
theorem dX0_leastLevelOver_33 : decode cX0_leastLevelOver 33 = .ok (.if_icmp .ge 10, 3) := by decide +kernel
theorem dX0_leastLevelOver_36 : decode cX0_leastLevelOver 36 = .ok (.aload_n 0, 1) := by decide +kernel
theorem dX0_leastLevelOver_37 : decode cX0_leastLevelOver 37 = .ok (.getfield 25, 3) := by decide +kernel
theorem dX0_leastLevelOver_40 : decode cX0_leastLevelOver 40 = .ok (.iload_n 3, 1) := by decide +kernel
theorem dX0_leastLevelOver_41 : decode cX0_leastLevelOver 41 = .ok (.iaload, 1) := by decide +kernel
theorem dX0_leastLevelOver_42 : decode cX0_leastLevelOver 42 = .ok (.istore_n 2, 1) := by decide +kernel
theorem dX0_leastLevelOver_43 : decode cX0_leastLevelOver 43 = .ok (.iinc 3 1, 3) := by decide +kernel
theorem dX0_leastLevelOver_46 : decode cX0_leastLevelOver 46 = .ok (.goto (-42), 3) := by decide +kernel
theorem dX0_leastLevelOver_49 : decode cX0_leastLevelOver 49 = .ok (.iload_n 2, 1) := by decide +kernel
theorem dX0_leastLevelOver_50 : decode cX0_leastLevelOver 50 = .ok (.ireturn, 1) := by decide +kernel
theorem dX0_fullLocks_0 : decode cX0_fullLocks 0 = .ok (.iconst 0, 1) := by decide +kernel
theorem dX0_fullLocks_1 : decode cX0_fullLocks 1 = .ok (.istore_n 1, 1) := by decide +kernel
theorem dX0_fullLocks_2 : decode cX0_fullLocks 2 = .ok (.iconst 0, 1) := by decide +kernel
theorem dX0_fullLocks_3 : decode cX0_fullLocks 3 = .ok (.istore_n 2, 1) := by decide +kernel
theorem dX0_fullLocks_4 : decode cX0_fullLocks 4 = .ok (.iload_n 2, 1) := by decide +kernel
theorem dX0_fullLocks_5 : decode cX0_fullLocks 5 = .ok (.aload_n 0, 1) := by decide +kernel
theorem dX0_fullLocks_6 : decode cX0_fullLocks 6 = .ok (.getfield 51, 3) := by decide +kernel
theorem dX0_fullLocks_9 : decode cX0_fullLocks 9 = .ok (.if_icmp .ge 21, 3) := by decide +kernel
theorem dX0_fullLocks_12 : decode cX0_fullLocks 12 = .ok (.aload_n 0, 1) := by decide +kernel
theorem dX0_fullLocks_13 : decode cX0_fullLocks 13 = .ok (.getfield 21, 3) := by decide +kernel
theorem dX0_fullLocks_16 : decode cX0_fullLocks 16 = .ok (.iload_n 2, 1) := by decide +kernel
theorem dX0_fullLocks_17 : decode cX0_fullLocks 17 = .ok (.baload, 1) := by decide +kernel
theorem dX0_fullLocks_18 : decode cX0_fullLocks 18 = .ok (.ifCond .eq 6, 3) := by decide +kernel
theorem dX0_fullLocks_21 : decode cX0_fullLocks 21 = .ok (.iinc 1 1, 3) := by decide +kernel
theorem dX0_fullLocks_24 : decode cX0_fullLocks 24 = .ok (.iinc 2 1, 3) := by decide +kernel
theorem dX0_fullLocks_27 : decode cX0_fullLocks 27 = .ok (.goto (-23), 3) := by decide +kernel
theorem dX0_fullLocks_30 : decode cX0_fullLocks 30 = .ok (.iload_n 1, 1) := by decide +kernel
theorem dX0_fullLocks_31 : decode cX0_fullLocks 31 = .ok (.ireturn, 1) := by decide +kernel
theorem dX1_init_0 : decode cX1_init 0 = .ok (.aload_n 0, 1) := by decide +kernel
theorem dX1_init_1 : decode cX1_init 1 = .ok (.invokespecial 3, 3) := by decide +kernel
theorem dX1_init_4 : decode cX1_init 4 = .ok (.return_, 1) := by decide +kernel
theorem dX1_number_0 : decode cX1_number 0 = .ok (.aload_n 0, 1) := by decide +kernel
theorem dX1_number_1 : decode cX1_number 1 = .ok (.getfield 9, 3) := by decide +kernel
theorem dX1_number_4 : decode cX1_number 4 = .ok (.ifCond .ne 6, 3) := by decide +kernel
theorem dX1_number_7 : decode cX1_number 7 = .ok (.bipush (-2), 2) := by decide +kernel
theorem dX1_number_9 : decode cX1_number 9 = .ok (.ireturn, 1) := by decide +kernel
theorem dX1_number_10 : decode cX1_number 10 = .ok (.iload_n 1, 1) := by decide +kernel
theorem dX1_number_11 : decode cX1_number 11 = .ok (.tableswitch 40 0 2 #[25, 30, 35], 25) := by decide +kernel
theorem dX1_number_36 : decode cX1_number 36 = .ok (.aload_n 0, 1) := by decide +kernel
theorem dX1_number_37 : decode cX1_number 37 = .ok (.getfield 15, 3) := by decide +kernel
theorem dX1_number_40 : decode cX1_number 40 = .ok (.ireturn, 1) := by decide +kernel
theorem dX1_number_41 : decode cX1_number 41 = .ok (.aload_n 0, 1) := by decide +kernel
theorem dX1_number_42 : decode cX1_number 42 = .ok (.getfield 19, 3) := by decide +kernel
theorem dX1_number_45 : decode cX1_number 45 = .ok (.ireturn, 1) := by decide +kernel
theorem dX1_number_46 : decode cX1_number 46 = .ok (.aload_n 0, 1) := by decide +kernel
theorem dX1_number_47 : decode cX1_number 47 = .ok (.getfield 22, 3) := by decide +kernel
theorem dX1_number_50 : decode cX1_number 50 = .ok (.ireturn, 1) := by decide +kernel
theorem dX1_number_51 : decode cX1_number 51 = .ok (.aload_n 0, 1) := by decide +kernel
theorem dX1_number_52 : decode cX1_number 52 = .ok (.getfield 25, 3) := by decide +kernel
theorem dX1_number_55 : decode cX1_number 55 = .ok (.ireturn, 1) := by decide +kernel
theorem dX2_init_0 : decode cX2_init 0 = .ok (.aload_n 0, 1) := by decide +kernel
theorem dX2_init_1 : decode cX2_init 1 = .ok (.invokespecial 3, 3) := by decide +kernel
theorem dX2_init_4 : decode cX2_init 4 = .ok (.aload_n 0, 1) := by decide +kernel
theorem dX2_init_5 : decode cX2_init 5 = .ok (.bipush 22, 2) := by decide +kernel
theorem dX2_init_7 : decode cX2_init 7 = .ok (.newarray .int, 2) := by decide +kernel
theorem dX2_init_9 : decode cX2_init 9 = .ok (.putfield 11, 3) := by decide +kernel
theorem dX2_init_12 : decode cX2_init 12 = .ok (.aload_n 0, 1) := by decide +kernel
theorem dX2_init_13 : decode cX2_init 13 = .ok (.bipush 22, 2) := by decide +kernel
theorem dX2_init_15 : decode cX2_init 15 = .ok (.newarray .int, 2) := by decide +kernel
theorem dX2_init_17 : decode cX2_init 17 = .ok (.putfield 15, 3) := by decide +kernel
theorem dX2_init_20 : decode cX2_init 20 = .ok (.aload_n 0, 1) := by decide +kernel
theorem dX2_init_21 : decode cX2_init 21 = .ok (.bipush 22, 2) := by decide +kernel
theorem dX2_init_23 : decode cX2_init 23 = .ok (.newarray .int, 2) := by decide +kernel
theorem dX2_init_25 : decode cX2_init 25 = .ok (.putfield 18, 3) := by decide +kernel
theorem dX2_init_28 : decode cX2_init 28 = .ok (.aload_n 0, 1) := by decide +kernel
theorem dX2_init_29 : decode cX2_init 29 = .ok (.bipush 22, 2) := by decide +kernel
theorem dX2_init_31 : decode cX2_init 31 = .ok (.newarray .boolean, 2) := by decide +kernel
theorem dX2_init_33 : decode cX2_init 33 = .ok (.putfield 21, 3) := by decide +kernel
theorem dX2_init_36 : decode cX2_init 36 = .ok (.aload_n 0, 1) := by decide +kernel
theorem dX2_init_37 : decode cX2_init 37 = .ok (.bipush 22, 2) := by decide +kernel
theorem dX2_init_39 : decode cX2_init 39 = .ok (.newarray .int, 2) := by decide +kernel
theorem dX2_init_41 : decode cX2_init 41 = .ok (.putfield 25, 3) := by decide +kernel
theorem dX2_init_44 : decode cX2_init 44 = .ok (.return_, 1) := by decide +kernel
theorem dX2_copyFrom_0 : decode cX2_copyFrom 0 = .ok (.aload_n 0, 1) := by decide +kernel
theorem dX2_copyFrom_1 : decode cX2_copyFrom 1 = .ok (.aload_n 1, 1) := by decide +kernel
theorem dX2_copyFrom_2 : decode cX2_copyFrom 2 = .ok (.getfield 28, 3) := by decide +kernel
theorem dX2_copyFrom_5 : decode cX2_copyFrom 5 = .ok (.putfield 28, 3) := by decide +kernel
theorem dX2_copyFrom_8 : decode cX2_copyFrom 8 = .ok (.aload_n 1, 1) := by decide +kernel
theorem dX2_copyFrom_9 : decode cX2_copyFrom 9 = .ok (.getfield 11, 3) := by decide +kernel
theorem dX2_copyFrom_12 : decode cX2_copyFrom 12 = .ok (.iconst 0, 1) := by decide +kernel
theorem dX2_copyFrom_13 : decode cX2_copyFrom 13 = .ok (.aload_n 0, 1) := by decide +kernel
theorem dX2_copyFrom_14 : decode cX2_copyFrom 14 = .ok (.getfield 11, 3) := by decide +kernel
theorem dX2_copyFrom_17 : decode cX2_copyFrom 17 = .ok (.iconst 0, 1) := by decide +kernel
theorem dX2_copyFrom_18 : decode cX2_copyFrom 18 = .ok (.bipush 22, 2) := by decide +kernel
theorem dX2_copyFrom_20 : decode cX2_copyFrom 20 = .ok (.invokestatic 32, 3) := by decide +kernel
theorem dX2_copyFrom_23 : decode cX2_copyFrom 23 = .ok (.aload_n 1, 1) := by decide +kernel
theorem dX2_copyFrom_24 : decode cX2_copyFrom 24 = .ok (.getfield 15, 3) := by decide +kernel
theorem dX2_copyFrom_27 : decode cX2_copyFrom 27 = .ok (.iconst 0, 1) := by decide +kernel
theorem dX2_copyFrom_28 : decode cX2_copyFrom 28 = .ok (.aload_n 0, 1) := by decide +kernel
theorem dX2_copyFrom_29 : decode cX2_copyFrom 29 = .ok (.getfield 15, 3) := by decide +kernel
theorem dX2_copyFrom_32 : decode cX2_copyFrom 32 = .ok (.iconst 0, 1) := by decide +kernel
theorem dX2_copyFrom_33 : decode cX2_copyFrom 33 = .ok (.bipush 22, 2) := by decide +kernel
theorem dX2_copyFrom_35 : decode cX2_copyFrom 35 = .ok (.invokestatic 32, 3) := by decide +kernel
theorem dX2_copyFrom_38 : decode cX2_copyFrom 38 = .ok (.aload_n 1, 1) := by decide +kernel
theorem dX2_copyFrom_39 : decode cX2_copyFrom 39 = .ok (.getfield 18, 3) := by decide +kernel
theorem dX2_copyFrom_42 : decode cX2_copyFrom 42 = .ok (.iconst 0, 1) := by decide +kernel
theorem dX2_copyFrom_43 : decode cX2_copyFrom 43 = .ok (.aload_n 0, 1) := by decide +kernel
theorem dX2_copyFrom_44 : decode cX2_copyFrom 44 = .ok (.getfield 18, 3) := by decide +kernel
theorem dX2_copyFrom_47 : decode cX2_copyFrom 47 = .ok (.iconst 0, 1) := by decide +kernel
theorem dX2_copyFrom_48 : decode cX2_copyFrom 48 = .ok (.bipush 22, 2) := by decide +kernel
theorem dX2_copyFrom_50 : decode cX2_copyFrom 50 = .ok (.invokestatic 32, 3) := by decide +kernel
theorem dX2_copyFrom_53 : decode cX2_copyFrom 53 = .ok (.aload_n 1, 1) := by decide +kernel
theorem dX2_copyFrom_54 : decode cX2_copyFrom 54 = .ok (.getfield 25, 3) := by decide +kernel
theorem dX2_copyFrom_57 : decode cX2_copyFrom 57 = .ok (.iconst 0, 1) := by decide +kernel
theorem dX2_copyFrom_58 : decode cX2_copyFrom 58 = .ok (.aload_n 0, 1) := by decide +kernel
theorem dX2_copyFrom_59 : decode cX2_copyFrom 59 = .ok (.getfield 25, 3) := by decide +kernel
theorem dX2_copyFrom_62 : decode cX2_copyFrom 62 = .ok (.iconst 0, 1) := by decide +kernel
theorem dX2_copyFrom_63 : decode cX2_copyFrom 63 = .ok (.bipush 22, 2) := by decide +kernel
theorem dX2_copyFrom_65 : decode cX2_copyFrom 65 = .ok (.invokestatic 32, 3) := by decide +kernel
theorem dX2_copyFrom_68 : decode cX2_copyFrom 68 = .ok (.iconst 0, 1) := by decide +kernel
theorem dX2_copyFrom_69 : decode cX2_copyFrom 69 = .ok (.istore_n 2, 1) := by decide +kernel
theorem dX2_copyFrom_70 : decode cX2_copyFrom 70 = .ok (.iload_n 2, 1) := by decide +kernel
theorem dX2_copyFrom_71 : decode cX2_copyFrom 71 = .ok (.bipush 22, 2) := by decide +kernel
theorem dX2_copyFrom_73 : decode cX2_copyFrom 73 = .ok (.if_icmp .ge 21, 3) := by decide +kernel
theorem dX2_copyFrom_76 : decode cX2_copyFrom 76 = .ok (.aload_n 0, 1) := by decide +kernel
theorem dX2_copyFrom_77 : decode cX2_copyFrom 77 = .ok (.getfield 21, 3) := by decide +kernel
theorem dX2_copyFrom_80 : decode cX2_copyFrom 80 = .ok (.iload_n 2, 1) := by decide +kernel
theorem dX2_copyFrom_81 : decode cX2_copyFrom 81 = .ok (.aload_n 1, 1) := by decide +kernel
theorem dX2_copyFrom_82 : decode cX2_copyFrom 82 = .ok (.getfield 21, 3) := by decide +kernel
theorem dX2_copyFrom_85 : decode cX2_copyFrom 85 = .ok (.iload_n 2, 1) := by decide +kernel
theorem dX2_copyFrom_86 : decode cX2_copyFrom 86 = .ok (.baload, 1) := by decide +kernel
theorem dX2_copyFrom_87 : decode cX2_copyFrom 87 = .ok (.bastore, 1) := by decide +kernel
theorem dX2_copyFrom_88 : decode cX2_copyFrom 88 = .ok (.iinc 2 1, 3) := by decide +kernel
theorem dX2_copyFrom_91 : decode cX2_copyFrom 91 = .ok (.goto (-21), 3) := by decide +kernel
theorem dX2_copyFrom_94 : decode cX2_copyFrom 94 = .ok (.return_, 1) := by decide +kernel
theorem dX2_has_0 : decode cX2_has 0 = .ok (.iload_n 1, 1) := by decide +kernel
theorem dX2_has_1 : decode cX2_has 1 = .ok (.ifCond .lt 15, 3) := by decide +kernel
theorem dX2_has_4 : decode cX2_has 4 = .ok (.iload_n 1, 1) := by decide +kernel
theorem dX2_has_5 : decode cX2_has 5 = .ok (.aload_n 0, 1) := by decide +kernel
theorem dX2_has_6 : decode cX2_has 6 = .ok (.getfield 28, 3) := by decide +kernel
theorem dX2_has_9 : decode cX2_has 9 = .ok (.if_icmp .ge 7, 3) := by decide +kernel
theorem dX2_has_12 : decode cX2_has 12 = .ok (.iconst 1, 1) := by decide +kernel
theorem dX2_has_13 : decode cX2_has 13 = .ok (.goto 4, 3) := by decide +kernel
theorem dX2_has_16 : decode cX2_has 16 = .ok (.iconst 0, 1) := by decide +kernel
theorem dX2_has_17 : decode cX2_has 17 = .ok (.ireturn, 1) := by decide +kernel
theorem dX2_numberOf_0 : decode cX2_numberOf 0 = .ok (.iconst 0, 1) := by decide +kernel
theorem dX2_numberOf_1 : decode cX2_numberOf 1 = .ok (.istore_n 2, 1) := by decide +kernel
theorem dX2_numberOf_2 : decode cX2_numberOf 2 = .ok (.iload_n 2, 1) := by decide +kernel
theorem dX2_numberOf_3 : decode cX2_numberOf 3 = .ok (.aload_n 0, 1) := by decide +kernel
theorem dX2_numberOf_4 : decode cX2_numberOf 4 = .ok (.getfield 28, 3) := by decide +kernel
theorem dX2_numberOf_7 : decode cX2_numberOf 7 = .ok (.if_icmp .ge 21, 3) := by decide +kernel
theorem dX2_numberOf_10 : decode cX2_numberOf 10 = .ok (.aload_n 0, 1) := by decide +kernel
theorem dX2_numberOf_11 : decode cX2_numberOf 11 = .ok (.getfield 11, 3) := by decide +kernel
theorem dX2_numberOf_14 : decode cX2_numberOf 14 = .ok (.iload_n 2, 1) := by decide +kernel
theorem dX2_numberOf_15 : decode cX2_numberOf 15 = .ok (.iaload, 1) := by decide +kernel
theorem dX2_numberOf_16 : decode cX2_numberOf 16 = .ok (.iload_n 1, 1) := by decide +kernel
theorem dX2_numberOf_17 : decode cX2_numberOf 17 = .ok (.if_icmp .ne 5, 3) := by decide +kernel
theorem dX2_numberOf_20 : decode cX2_numberOf 20 = .ok (.iload_n 2, 1) := by decide +kernel
theorem dX2_numberOf_21 : decode cX2_numberOf 21 = .ok (.ireturn, 1) := by decide +kernel
theorem dX2_numberOf_22 : decode cX2_numberOf 22 = .ok (.iinc 2 1, 3) := by decide +kernel
theorem dX2_numberOf_25 : decode cX2_numberOf 25 = .ok (.goto (-23), 3) := by decide +kernel
theorem dX2_numberOf_28 : decode cX2_numberOf 28 = .ok (.bipush (-2), 2) := by decide +kernel
theorem dX2_numberOf_30 : decode cX2_numberOf 30 = .ok (.ireturn, 1) := by decide +kernel
theorem dX2_put_0 : decode cX2_put 0 = .ok (.aload_n 0, 1) := by decide +kernel
theorem dX2_put_1 : decode cX2_put 1 = .ok (.aload_n 1, 1) := by decide +kernel
theorem dX2_put_2 : decode cX2_put 2 = .ok (.getfield 38, 3) := by decide +kernel
theorem dX2_put_5 : decode cX2_put 5 = .ok (.invokevirtual 42, 3) := by decide +kernel
theorem dX2_put_8 : decode cX2_put 8 = .ok (.istore_n 2, 1) := by decide +kernel
theorem dX2_put_9 : decode cX2_put 9 = .ok (.iload_n 2, 1) := by decide +kernel
theorem dX2_put_10 : decode cX2_put 10 = .ok (.ifCond .ge 4, 3) := by decide +kernel
theorem dX2_put_13 : decode cX2_put 13 = .ok (.return_, 1) := by decide +kernel
theorem dX2_put_14 : decode cX2_put 14 = .ok (.aload_n 0, 1) := by decide +kernel
theorem dX2_put_15 : decode cX2_put 15 = .ok (.getfield 11, 3) := by decide +kernel
theorem dX2_put_18 : decode cX2_put 18 = .ok (.iload_n 2, 1) := by decide +kernel
theorem dX2_put_19 : decode cX2_put 19 = .ok (.aload_n 1, 1) := by decide +kernel
theorem dX2_put_20 : decode cX2_put 20 = .ok (.getfield 38, 3) := by decide +kernel
theorem dX2_put_23 : decode cX2_put 23 = .ok (.iastore, 1) := by decide +kernel
theorem dX2_put_24 : decode cX2_put 24 = .ok (.aload_n 0, 1) := by decide +kernel
theorem dX2_put_25 : decode cX2_put 25 = .ok (.getfield 15, 3) := by decide +kernel
theorem dX2_put_28 : decode cX2_put 28 = .ok (.iload_n 2, 1) := by decide +kernel
theorem dX2_put_29 : decode cX2_put 29 = .ok (.aload_n 1, 1) := by decide +kernel
theorem dX2_put_30 : decode cX2_put 30 = .ok (.getfield 46, 3) := by decide +kernel
theorem dX2_put_33 : decode cX2_put 33 = .ok (.iastore, 1) := by decide +kernel
theorem dX2_put_34 : decode cX2_put 34 = .ok (.aload_n 0, 1) := by decide +kernel
theorem dX2_put_35 : decode cX2_put 35 = .ok (.getfield 18, 3) := by decide +kernel
theorem dX2_put_38 : decode cX2_put 38 = .ok (.iload_n 2, 1) := by decide +kernel
theorem dX2_put_39 : decode cX2_put 39 = .ok (.aload_n 1, 1) := by decide +kernel
theorem dX2_put_40 : decode cX2_put 40 = .ok (.getfield 48, 3) := by decide +kernel
theorem dX2_put_43 : decode cX2_put 43 = .ok (.iastore, 1) := by decide +kernel
theorem dX2_put_44 : decode cX2_put 44 = .ok (.aload_n 0, 1) := by decide +kernel
theorem dX2_put_45 : decode cX2_put 45 = .ok (.getfield 21, 3) := by decide +kernel
theorem dX2_put_48 : decode cX2_put 48 = .ok (.iload_n 2, 1) := by decide +kernel
theorem dX2_put_49 : decode cX2_put 49 = .ok (.aload_n 1, 1) := by decide +kernel
theorem dX2_put_50 : decode cX2_put 50 = .ok (.getfield 50, 3) := by decide +kernel
theorem dX2_put_53 : decode cX2_put 53 = .ok (.bastore, 1) := by decide +kernel
theorem dX2_put_54 : decode cX2_put 54 = .ok (.aload_n 0, 1) := by decide +kernel
theorem dX2_put_55 : decode cX2_put 55 = .ok (.getfield 25, 3) := by decide +kernel
theorem dX2_put_58 : decode cX2_put 58 = .ok (.iload_n 2, 1) := by decide +kernel
theorem dX2_put_59 : decode cX2_put 59 = .ok (.aload_n 1, 1) := by decide +kernel
theorem dX2_put_60 : decode cX2_put 60 = .ok (.getfield 53, 3) := by decide +kernel
theorem dX2_put_63 : decode cX2_put 63 = .ok (.iastore, 1) := by decide +kernel
theorem dX2_put_64 : decode cX2_put 64 = .ok (.return_, 1) := by decide +kernel
theorem dX2_placeFor_0 : decode cX2_placeFor 0 = .ok (.iconst 0, 1) := by decide +kernel
theorem dX2_placeFor_1 : decode cX2_placeFor 1 = .ok (.istore_n 2, 1) := by decide +kernel
theorem dX2_placeFor_2 : decode cX2_placeFor 2 = .ok (.iload_n 2, 1) := by decide +kernel
theorem dX2_placeFor_3 : decode cX2_placeFor 3 = .ok (.aload_n 0, 1) := by decide +kernel
theorem dX2_placeFor_4 : decode cX2_placeFor 4 = .ok (.getfield 28, 3) := by decide +kernel
theorem dX2_placeFor_7 : decode cX2_placeFor 7 = .ok (.if_icmp .ge 19, 3) := by decide +kernel
theorem dX2_placeFor_10 : decode cX2_placeFor 10 = .ok (.aload_n 0, 1) := by decide +kernel
theorem dX2_placeFor_11 : decode cX2_placeFor 11 = .ok (.getfield 11, 3) := by decide +kernel
theorem dX2_placeFor_14 : decode cX2_placeFor 14 = .ok (.iload_n 2, 1) := by decide +kernel
theorem dX2_placeFor_15 : decode cX2_placeFor 15 = .ok (.iaload, 1) := by decide +kernel
theorem dX2_placeFor_16 : decode cX2_placeFor 16 = .ok (.iload_n 1, 1) := by decide +kernel
theorem dX2_placeFor_17 : decode cX2_placeFor 17 = .ok (.if_icmp .ge 9, 3) := by decide +kernel
theorem dX2_placeFor_20 : decode cX2_placeFor 20 = .ok (.iinc 2 1, 3) := by decide +kernel
theorem dX2_placeFor_23 : decode cX2_placeFor 23 = .ok (.goto (-21), 3) := by decide +kernel
theorem dX2_placeFor_26 : decode cX2_placeFor 26 = .ok (.iload_n 2, 1) := by decide +kernel
theorem dX2_placeFor_27 : decode cX2_placeFor 27 = .ok (.aload_n 0, 1) := by decide +kernel
theorem dX2_placeFor_28 : decode cX2_placeFor 28 = .ok (.getfield 28, 3) := by decide +kernel
theorem dX2_placeFor_31 : decode cX2_placeFor 31 = .ok (.if_icmp .ge 15, 3) := by decide +kernel
theorem dX2_placeFor_34 : decode cX2_placeFor 34 = .ok (.aload_n 0, 1) := by decide +kernel
theorem dX2_placeFor_35 : decode cX2_placeFor 35 = .ok (.getfield 11, 3) := by decide +kernel
theorem dX2_placeFor_38 : decode cX2_placeFor 38 = .ok (.iload_n 2, 1) := by decide +kernel
theorem dX2_placeFor_39 : decode cX2_placeFor 39 = .ok (.iaload, 1) := by decide +kernel
theorem dX2_placeFor_40 : decode cX2_placeFor 40 = .ok (.iload_n 1, 1) := by decide +kernel
theorem dX2_placeFor_41 : decode cX2_placeFor 41 = .ok (.if_icmp .ne 5, 3) := by decide +kernel
theorem dX2_placeFor_44 : decode cX2_placeFor 44 = .ok (.iload_n 2, 1) := by decide +kernel
theorem dX2_placeFor_45 : decode cX2_placeFor 45 = .ok (.ireturn, 1) := by decide +kernel
theorem dX2_placeFor_46 : decode cX2_placeFor 46 = .ok (.aload_n 0, 1) := by decide +kernel
theorem dX2_placeFor_47 : decode cX2_placeFor 47 = .ok (.getfield 28, 3) := by decide +kernel
theorem dX2_placeFor_50 : decode cX2_placeFor 50 = .ok (.bipush 22, 2) := by decide +kernel
theorem dX2_placeFor_52 : decode cX2_placeFor 52 = .ok (.if_icmp .lt 5, 3) := by decide +kernel
theorem dX2_placeFor_55 : decode cX2_placeFor 55 = .ok (.iconst (-1), 1) := by decide +kernel
theorem dX2_placeFor_56 : decode cX2_placeFor 56 = .ok (.ireturn, 1) := by decide +kernel
theorem dX2_placeFor_57 : decode cX2_placeFor 57 = .ok (.aload_n 0, 1) := by decide +kernel
theorem dX2_placeFor_58 : decode cX2_placeFor 58 = .ok (.getfield 28, 3) := by decide +kernel
theorem dX2_placeFor_61 : decode cX2_placeFor 61 = .ok (.istore_n 3, 1) := by decide +kernel
theorem dX2_placeFor_62 : decode cX2_placeFor 62 = .ok (.iload_n 3, 1) := by decide +kernel
theorem dX2_placeFor_63 : decode cX2_placeFor 63 = .ok (.iload_n 2, 1) := by decide +kernel
theorem dX2_placeFor_64 : decode cX2_placeFor 64 = .ok (.if_icmp .le 17, 3) := by decide +kernel
theorem dX2_placeFor_67 : decode cX2_placeFor 67 = .ok (.aload_n 0, 1) := by decide +kernel
theorem dX2_placeFor_68 : decode cX2_placeFor 68 = .ok (.iload_n 3, 1) := by decide +kernel
theorem dX2_placeFor_69 : decode cX2_placeFor 69 = .ok (.iconst 1, 1) := by decide +kernel
theorem dX2_placeFor_70 : decode cX2_placeFor 70 = .ok (.isub, 1) := by decide +kernel
theorem dX2_placeFor_71 : decode cX2_placeFor 71 = .ok (.iload_n 3, 1) := by decide +kernel
theorem dX2_placeFor_72 : decode cX2_placeFor 72 = .ok (.invokevirtual 55, 3) := by decide +kernel
theorem dX2_placeFor_75 : decode cX2_placeFor 75 = .ok (.iinc 3 (-1), 3) := by decide +kernel
theorem dX2_placeFor_78 : decode cX2_placeFor 78 = .ok (.goto (-16), 3) := by decide +kernel
theorem dX2_placeFor_81 : decode cX2_placeFor 81 = .ok (.aload_n 0, 1) := by decide +kernel
theorem dX2_placeFor_82 : decode cX2_placeFor 82 = .ok (.dup, 1) := by decide +kernel
theorem dX2_placeFor_83 : decode cX2_placeFor 83 = .ok (.getfield 28, 3) := by decide +kernel
theorem dX2_placeFor_86 : decode cX2_placeFor 86 = .ok (.iconst 1, 1) := by decide +kernel
theorem dX2_placeFor_87 : decode cX2_placeFor 87 = .ok (.iadd, 1) := by decide +kernel
theorem dX2_placeFor_88 : decode cX2_placeFor 88 = .ok (.putfield 28, 3) := by decide +kernel
theorem dX2_placeFor_91 : decode cX2_placeFor 91 = .ok (.iload_n 2, 1) := by decide +kernel
theorem dX2_placeFor_92 : decode cX2_placeFor 92 = .ok (.ireturn, 1) := by decide +kernel
theorem dX2_remove_0 : decode cX2_remove 0 = .ok (.aload_n 0, 1) := by decide +kernel
theorem dX2_remove_1 : decode cX2_remove 1 = .ok (.iload_n 1, 1) := by decide +kernel
theorem dX2_remove_2 : decode cX2_remove 2 = .ok (.invokevirtual 59, 3) := by decide +kernel
theorem dX2_remove_5 : decode cX2_remove 5 = .ok (.ifCond .ne 4, 3) := by decide +kernel
theorem dX2_remove_8 : decode cX2_remove 8 = .ok (.return_, 1) := by decide +kernel
theorem dX2_remove_9 : decode cX2_remove 9 = .ok (.iload_n 1, 1) := by decide +kernel
theorem dX2_remove_10 : decode cX2_remove 10 = .ok (.istore_n 2, 1) := by decide +kernel
theorem dX2_remove_11 : decode cX2_remove 11 = .ok (.iload_n 2, 1) := by decide +kernel
theorem dX2_remove_12 : decode cX2_remove 12 = .ok (.iconst 1, 1) := by decide +kernel
theorem dX2_remove_13 : decode cX2_remove 13 = .ok (.iadd, 1) := by decide +kernel
theorem dX2_remove_14 : decode cX2_remove 14 = .ok (.aload_n 0, 1) := by decide +kernel
theorem dX2_remove_15 : decode cX2_remove 15 = .ok (.getfield 28, 3) := by decide +kernel
theorem dX2_remove_18 : decode cX2_remove 18 = .ok (.if_icmp .ge 17, 3) := by decide +kernel
theorem dX2_remove_21 : decode cX2_remove 21 = .ok (.aload_n 0, 1) := by decide +kernel
theorem dX2_remove_22 : decode cX2_remove 22 = .ok (.iload_n 2, 1) := by decide +kernel
theorem dX2_remove_23 : decode cX2_remove 23 = .ok (.iconst 1, 1) := by decide +kernel
theorem dX2_remove_24 : decode cX2_remove 24 = .ok (.iadd, 1) := by decide +kernel
theorem dX2_remove_25 : decode cX2_remove 25 = .ok (.iload_n 2, 1) := by decide +kernel
theorem dX2_remove_26 : decode cX2_remove 26 = .ok (.invokevirtual 55, 3) := by decide +kernel
theorem dX2_remove_29 : decode cX2_remove 29 = .ok (.iinc 2 1, 3) := by decide +kernel
theorem dX2_remove_32 : decode cX2_remove 32 = .ok (.goto (-21), 3) := by decide +kernel
theorem dX2_remove_35 : decode cX2_remove 35 = .ok (.aload_n 0, 1) := by decide +kernel
theorem dX2_remove_36 : decode cX2_remove 36 = .ok (.dup, 1) := by decide +kernel
theorem dX2_remove_37 : decode cX2_remove 37 = .ok (.getfield 28, 3) := by decide +kernel
theorem dX2_remove_40 : decode cX2_remove 40 = .ok (.iconst 1, 1) := by decide +kernel
theorem dX2_remove_41 : decode cX2_remove 41 = .ok (.isub, 1) := by decide +kernel
theorem dX2_remove_42 : decode cX2_remove 42 = .ok (.putfield 28, 3) := by decide +kernel
theorem dX2_remove_45 : decode cX2_remove 45 = .ok (.return_, 1) := by decide +kernel
theorem dX2_copyRow_0 : decode cX2_copyRow 0 = .ok (.aload_n 0, 1) := by decide +kernel
theorem dX2_copyRow_1 : decode cX2_copyRow 1 = .ok (.getfield 11, 3) := by decide +kernel
theorem dX2_copyRow_4 : decode cX2_copyRow 4 = .ok (.iload_n 2, 1) := by decide +kernel
theorem dX2_copyRow_5 : decode cX2_copyRow 5 = .ok (.aload_n 0, 1) := by decide +kernel
theorem dX2_copyRow_6 : decode cX2_copyRow 6 = .ok (.getfield 11, 3) := by decide +kernel
theorem dX2_copyRow_9 : decode cX2_copyRow 9 = .ok (.iload_n 1, 1) := by decide +kernel
theorem dX2_copyRow_10 : decode cX2_copyRow 10 = .ok (.iaload, 1) := by decide +kernel
theorem dX2_copyRow_11 : decode cX2_copyRow 11 = .ok (.iastore, 1) := by decide +kernel
theorem dX2_copyRow_12 : decode cX2_copyRow 12 = .ok (.aload_n 0, 1) := by decide +kernel
theorem dX2_copyRow_13 : decode cX2_copyRow 13 = .ok (.getfield 15, 3) := by decide +kernel
theorem dX2_copyRow_16 : decode cX2_copyRow 16 = .ok (.iload_n 2, 1) := by decide +kernel
theorem dX2_copyRow_17 : decode cX2_copyRow 17 = .ok (.aload_n 0, 1) := by decide +kernel
theorem dX2_copyRow_18 : decode cX2_copyRow 18 = .ok (.getfield 15, 3) := by decide +kernel
theorem dX2_copyRow_21 : decode cX2_copyRow 21 = .ok (.iload_n 1, 1) := by decide +kernel
theorem dX2_copyRow_22 : decode cX2_copyRow 22 = .ok (.iaload, 1) := by decide +kernel
theorem dX2_copyRow_23 : decode cX2_copyRow 23 = .ok (.iastore, 1) := by decide +kernel
theorem dX2_copyRow_24 : decode cX2_copyRow 24 = .ok (.aload_n 0, 1) := by decide +kernel
theorem dX2_copyRow_25 : decode cX2_copyRow 25 = .ok (.getfield 18, 3) := by decide +kernel
theorem dX2_copyRow_28 : decode cX2_copyRow 28 = .ok (.iload_n 2, 1) := by decide +kernel
theorem dX2_copyRow_29 : decode cX2_copyRow 29 = .ok (.aload_n 0, 1) := by decide +kernel
theorem dX2_copyRow_30 : decode cX2_copyRow 30 = .ok (.getfield 18, 3) := by decide +kernel
theorem dX2_copyRow_33 : decode cX2_copyRow 33 = .ok (.iload_n 1, 1) := by decide +kernel
theorem dX2_copyRow_34 : decode cX2_copyRow 34 = .ok (.iaload, 1) := by decide +kernel
theorem dX2_copyRow_35 : decode cX2_copyRow 35 = .ok (.iastore, 1) := by decide +kernel
theorem dX2_copyRow_36 : decode cX2_copyRow 36 = .ok (.aload_n 0, 1) := by decide +kernel
theorem dX2_copyRow_37 : decode cX2_copyRow 37 = .ok (.getfield 21, 3) := by decide +kernel
theorem dX2_copyRow_40 : decode cX2_copyRow 40 = .ok (.iload_n 2, 1) := by decide +kernel
theorem dX2_copyRow_41 : decode cX2_copyRow 41 = .ok (.aload_n 0, 1) := by decide +kernel
theorem dX2_copyRow_42 : decode cX2_copyRow 42 = .ok (.getfield 21, 3) := by decide +kernel
theorem dX2_copyRow_45 : decode cX2_copyRow 45 = .ok (.iload_n 1, 1) := by decide +kernel
theorem dX2_copyRow_46 : decode cX2_copyRow 46 = .ok (.baload, 1) := by decide +kernel
theorem dX2_copyRow_47 : decode cX2_copyRow 47 = .ok (.bastore, 1) := by decide +kernel
theorem dX2_copyRow_48 : decode cX2_copyRow 48 = .ok (.aload_n 0, 1) := by decide +kernel
theorem dX2_copyRow_49 : decode cX2_copyRow 49 = .ok (.getfield 25, 3) := by decide +kernel
theorem dX2_copyRow_52 : decode cX2_copyRow 52 = .ok (.iload_n 2, 1) := by decide +kernel
theorem dX2_copyRow_53 : decode cX2_copyRow 53 = .ok (.aload_n 0, 1) := by decide +kernel
theorem dX2_copyRow_54 : decode cX2_copyRow 54 = .ok (.getfield 25, 3) := by decide +kernel
theorem dX2_copyRow_57 : decode cX2_copyRow 57 = .ok (.iload_n 1, 1) := by decide +kernel
theorem dX2_copyRow_58 : decode cX2_copyRow 58 = .ok (.iaload, 1) := by decide +kernel
theorem dX2_copyRow_59 : decode cX2_copyRow 59 = .ok (.iastore, 1) := by decide +kernel
theorem dX2_copyRow_60 : decode cX2_copyRow 60 = .ok (.return_, 1) := by decide +kernel
theorem dX2_moveOn_0 : decode cX2_moveOn 0 = .ok (.aload_n 0, 1) := by decide +kernel
theorem dX2_moveOn_1 : decode cX2_moveOn 1 = .ok (.iload_n 1, 1) := by decide +kernel
theorem dX2_moveOn_2 : decode cX2_moveOn 2 = .ok (.invokevirtual 59, 3) := by decide +kernel
theorem dX2_moveOn_5 : decode cX2_moveOn 5 = .ok (.ifCond .eq 27, 3) := by decide +kernel
theorem dX2_moveOn_8 : decode cX2_moveOn 8 = .ok (.aload_n 0, 1) := by decide +kernel
theorem dX2_moveOn_9 : decode cX2_moveOn 9 = .ok (.getfield 25, 3) := by decide +kernel
theorem dX2_moveOn_12 : decode cX2_moveOn 12 = .ok (.iload_n 1, 1) := by decide +kernel
theorem dX2_moveOn_13 : decode cX2_moveOn 13 = .ok (.dup2, 1) := by decide +kernel
theorem dX2_moveOn_14 : decode cX2_moveOn 14 = .ok (.iaload, 1) := by decide +kernel
theorem dX2_moveOn_15 : decode cX2_moveOn 15 = .ok (.aload_n 0, 1) := by decide +kernel
theorem dX2_moveOn_16 : decode cX2_moveOn 16 = .ok (.getfield 21, 3) := by decide +kernel
theorem dX2_moveOn_19 : decode cX2_moveOn 19 = .ok (.iload_n 1, 1) := by decide +kernel
theorem dX2_moveOn_20 : decode cX2_moveOn 20 = .ok (.baload, 1) := by decide +kernel
theorem dX2_moveOn_21 : decode cX2_moveOn 21 = .ok (.ifCond .eq 7, 3) := by decide +kernel
theorem dX2_moveOn_24 : decode cX2_moveOn 24 = .ok (.iload_n 2, 1) := by decide +kernel
theorem dX2_moveOn_25 : decode cX2_moveOn 25 = .ok (.goto 5, 3) := by decide +kernel
theorem dX2_moveOn_28 : decode cX2_moveOn 28 = .ok (.iload_n 2, 1) := by decide +kernel
theorem dX2_moveOn_29 : decode cX2_moveOn 29 = .ok (.ineg, 1) := by decide +kernel
theorem dX2_moveOn_30 : decode cX2_moveOn 30 = .ok (.iadd, 1) := by decide +kernel
theorem dX2_moveOn_31 : decode cX2_moveOn 31 = .ok (.iastore, 1) := by decide +kernel
theorem dX2_moveOn_32 : decode cX2_moveOn 32 = .ok (.return_, 1) := by decide +kernel
theorem dX2_sizeOf_0 : decode cX2_sizeOf 0 = .ok (.aload_n 0, 1) := by decide +kernel
theorem dX2_sizeOf_1 : decode cX2_sizeOf 1 = .ok (.iload_n 1, 1) := by decide +kernel
theorem dX2_sizeOf_2 : decode cX2_sizeOf 2 = .ok (.invokevirtual 59, 3) := by decide +kernel
theorem dX2_sizeOf_5 : decode cX2_sizeOf 5 = .ok (.ifCond .eq 12, 3) := by decide +kernel
theorem dX2_sizeOf_8 : decode cX2_sizeOf 8 = .ok (.aload_n 0, 1) := by decide +kernel
theorem dX2_sizeOf_9 : decode cX2_sizeOf 9 = .ok (.getfield 15, 3) := by decide +kernel
theorem dX2_sizeOf_12 : decode cX2_sizeOf 12 = .ok (.iload_n 1, 1) := by decide +kernel
theorem dX2_sizeOf_13 : decode cX2_sizeOf 13 = .ok (.iaload, 1) := by decide +kernel
theorem dX2_sizeOf_14 : decode cX2_sizeOf 14 = .ok (.goto 4, 3) := by decide +kernel
theorem dX2_sizeOf_17 : decode cX2_sizeOf 17 = .ok (.iconst 0, 1) := by decide +kernel
theorem dX2_sizeOf_18 : decode cX2_sizeOf 18 = .ok (.ireturn, 1) := by decide +kernel
theorem dX2_rankOf_0 : decode cX2_rankOf 0 = .ok (.aload_n 0, 1) := by decide +kernel
theorem dX2_rankOf_1 : decode cX2_rankOf 1 = .ok (.iload_n 1, 1) := by decide +kernel
theorem dX2_rankOf_2 : decode cX2_rankOf 2 = .ok (.invokevirtual 59, 3) := by decide +kernel
theorem dX2_rankOf_5 : decode cX2_rankOf 5 = .ok (.ifCond .eq 12, 3) := by decide +kernel
theorem dX2_rankOf_8 : decode cX2_rankOf 8 = .ok (.aload_n 0, 1) := by decide +kernel
theorem dX2_rankOf_9 : decode cX2_rankOf 9 = .ok (.getfield 18, 3) := by decide +kernel
theorem dX2_rankOf_12 : decode cX2_rankOf 12 = .ok (.iload_n 1, 1) := by decide +kernel
theorem dX2_rankOf_13 : decode cX2_rankOf 13 = .ok (.iaload, 1) := by decide +kernel
theorem dX2_rankOf_14 : decode cX2_rankOf 14 = .ok (.goto 4, 3) := by decide +kernel
theorem dX2_rankOf_17 : decode cX2_rankOf 17 = .ok (.iconst 0, 1) := by decide +kernel
theorem dX2_rankOf_18 : decode cX2_rankOf 18 = .ok (.ireturn, 1) := by decide +kernel
theorem dX2_countIn_0 : decode cX2_countIn 0 = .ok (.iconst 0, 1) := by decide +kernel
theorem dX2_countIn_1 : decode cX2_countIn 1 = .ok (.istore_n 2, 1) := by decide +kernel
theorem dX2_countIn_2 : decode cX2_countIn 2 = .ok (.iconst 0, 1) := by decide +kernel
theorem dX2_countIn_3 : decode cX2_countIn 3 = .ok (.istore_n 3, 1) := by decide +kernel
theorem dX2_countIn_4 : decode cX2_countIn 4 = .ok (.iload_n 3, 1) := by decide +kernel
theorem dX2_countIn_5 : decode cX2_countIn 5 = .ok (.aload_n 0, 1) := by decide +kernel
theorem dX2_countIn_6 : decode cX2_countIn 6 = .ok (.getfield 28, 3) := by decide +kernel
theorem dX2_countIn_9 : decode cX2_countIn 9 = .ok (.if_icmp .ge 22, 3) := by decide +kernel
theorem dX2_countIn_12 : decode cX2_countIn 12 = .ok (.aload_n 0, 1) := by decide +kernel
theorem dX2_countIn_13 : decode cX2_countIn 13 = .ok (.getfield 25, 3) := by decide +kernel
theorem dX2_countIn_16 : decode cX2_countIn 16 = .ok (.iload_n 3, 1) := by decide +kernel
theorem dX2_countIn_17 : decode cX2_countIn 17 = .ok (.iaload, 1) := by decide +kernel
theorem dX2_countIn_18 : decode cX2_countIn 18 = .ok (.iload_n 1, 1) := by decide +kernel
theorem dX2_countIn_19 : decode cX2_countIn 19 = .ok (.if_icmp .ne 6, 3) := by decide +kernel
theorem dX2_countIn_22 : decode cX2_countIn 22 = .ok (.iinc 2 1, 3) := by decide +kernel
theorem dX2_countIn_25 : decode cX2_countIn 25 = .ok (.iinc 3 1, 3) := by decide +kernel
theorem dX2_countIn_28 : decode cX2_countIn 28 = .ok (.goto (-24), 3) := by decide +kernel
theorem dX2_countIn_31 : decode cX2_countIn 31 = .ok (.iload_n 2, 1) := by decide +kernel
theorem dX2_countIn_32 : decode cX2_countIn 32 = .ok (.ireturn, 1) := by decide +kernel
theorem dX2_number_0 : decode cX2_number 0 = .ok (.iload_n 2, 1) := by decide +kernel
theorem dX2_number_1 : decode cX2_number 1 = .ok (.tableswitch 67 0 3 #[31, 38, 45, 60], 31) := by decide +kernel
theorem dX2_number_32 : decode cX2_number 32 = .ok (.aload_n 0, 1) := by decide +kernel
theorem dX2_number_33 : decode cX2_number 33 = .ok (.getfield 15, 3) := by decide +kernel
theorem dX2_number_36 : decode cX2_number 36 = .ok (.iload_n 1, 1) := by decide +kernel
theorem dX2_number_37 : decode cX2_number 37 = .ok (.iaload, 1) := by decide +kernel
theorem dX2_number_38 : decode cX2_number 38 = .ok (.ireturn, 1) := by decide +kernel
theorem dX2_number_39 : decode cX2_number 39 = .ok (.aload_n 0, 1) := by decide +kernel
theorem dX2_number_40 : decode cX2_number 40 = .ok (.getfield 18, 3) := by decide +kernel
theorem dX2_number_43 : decode cX2_number 43 = .ok (.iload_n 1, 1) := by decide +kernel
theorem dX2_number_44 : decode cX2_number 44 = .ok (.iaload, 1) := by decide +kernel
theorem dX2_number_45 : decode cX2_number 45 = .ok (.ireturn, 1) := by decide +kernel
theorem dX2_number_46 : decode cX2_number 46 = .ok (.aload_n 0, 1) := by decide +kernel
theorem dX2_number_47 : decode cX2_number 47 = .ok (.getfield 21, 3) := by decide +kernel
theorem dX2_number_50 : decode cX2_number 50 = .ok (.iload_n 1, 1) := by decide +kernel
theorem dX2_number_51 : decode cX2_number 51 = .ok (.baload, 1) := by decide +kernel
theorem dX2_number_52 : decode cX2_number 52 = .ok (.ifCond .eq 7, 3) := by decide +kernel
theorem dX2_number_55 : decode cX2_number 55 = .ok (.iconst 1, 1) := by decide +kernel
theorem dX2_number_56 : decode cX2_number 56 = .ok (.goto 4, 3) := by decide +kernel
theorem dX2_number_59 : decode cX2_number 59 = .ok (.iconst 0, 1) := by decide +kernel
theorem dX2_number_60 : decode cX2_number 60 = .ok (.ireturn, 1) := by decide +kernel
theorem dX2_number_61 : decode cX2_number 61 = .ok (.aload_n 0, 1) := by decide +kernel
theorem dX2_number_62 : decode cX2_number 62 = .ok (.getfield 25, 3) := by decide +kernel
theorem dX2_number_65 : decode cX2_number 65 = .ok (.iload_n 1, 1) := by decide +kernel
theorem dX2_number_66 : decode cX2_number 66 = .ok (.iaload, 1) := by decide +kernel
theorem dX2_number_67 : decode cX2_number 67 = .ok (.ireturn, 1) := by decide +kernel
theorem dX2_number_68 : decode cX2_number 68 = .ok (.aload_n 0, 1) := by decide +kernel
theorem dX2_number_69 : decode cX2_number 69 = .ok (.iload_n 1, 1) := by decide +kernel
theorem dX2_number_70 : decode cX2_number 70 = .ok (.invokevirtual 63, 3) := by decide +kernel
theorem dX2_number_73 : decode cX2_number 73 = .ok (.ireturn, 1) := by decide +kernel
theorem dX2_letterCount_0 : decode cX2_letterCount 0 = .ok (.iconst 0, 1) := by decide +kernel
theorem dX2_letterCount_1 : decode cX2_letterCount 1 = .ok (.istore_n 2, 1) := by decide +kernel
theorem dX2_letterCount_2 : decode cX2_letterCount 2 = .ok (.iload_n 2, 1) := by decide +kernel
theorem dX2_letterCount_3 : decode cX2_letterCount 3 = .ok (.iconst 4, 1) := by decide +kernel
theorem dX2_letterCount_4 : decode cX2_letterCount 4 = .ok (.if_icmp .ge 20, 3) := by decide +kernel
theorem dX2_letterCount_7 : decode cX2_letterCount 7 = .ok (.aload_n 0, 1) := by decide +kernel
theorem dX2_letterCount_8 : decode cX2_letterCount 8 = .ok (.iload_n 1, 1) := by decide +kernel
theorem dX2_letterCount_9 : decode cX2_letterCount 9 = .ok (.iload_n 2, 1) := by decide +kernel
theorem dX2_letterCount_10 : decode cX2_letterCount 10 = .ok (.invokevirtual 66, 3) := by decide +kernel
theorem dX2_letterCount_13 : decode cX2_letterCount 13 = .ok (.bipush (-2), 2) := by decide +kernel
theorem dX2_letterCount_15 : decode cX2_letterCount 15 = .ok (.if_icmp .eq 9, 3) := by decide +kernel
theorem dX2_letterCount_18 : decode cX2_letterCount 18 = .ok (.iinc 2 1, 3) := by decide +kernel
theorem dX2_letterCount_21 : decode cX2_letterCount 21 = .ok (.goto (-19), 3) := by decide +kernel
theorem dX2_letterCount_24 : decode cX2_letterCount 24 = .ok (.iload_n 2, 1) := by decide +kernel
theorem dX2_letterCount_25 : decode cX2_letterCount 25 = .ok (.ireturn, 1) := by decide +kernel
theorem dX2_letter_0 : decode cX2_letter 0 = .ok (.aload_n 0, 1) := by decide +kernel
theorem dX2_letter_1 : decode cX2_letter 1 = .ok (.iload_n 1, 1) := by decide +kernel
theorem dX2_letter_2 : decode cX2_letter 2 = .ok (.invokevirtual 59, 3) := by decide +kernel
theorem dX2_letter_5 : decode cX2_letter 5 = .ok (.ifCond .eq 12, 3) := by decide +kernel
theorem dX2_letter_8 : decode cX2_letter 8 = .ok (.iload_n 2, 1) := by decide +kernel
theorem dX2_letter_9 : decode cX2_letter 9 = .ok (.ifCond .lt 8, 3) := by decide +kernel
theorem dX2_letter_12 : decode cX2_letter 12 = .ok (.iload_n 2, 1) := by decide +kernel
theorem dX2_letter_13 : decode cX2_letter 13 = .ok (.iconst 4, 1) := by decide +kernel
theorem dX2_letter_14 : decode cX2_letter 14 = .ok (.if_icmp .lt 6, 3) := by decide +kernel
theorem dX2_letter_17 : decode cX2_letter 17 = .ok (.bipush (-2), 2) := by decide +kernel
theorem dX2_letter_19 : decode cX2_letter 19 = .ok (.ireturn, 1) := by decide +kernel
theorem dX2_letter_20 : decode cX2_letter 20 = .ok (.aload_n 0, 1) := by decide +kernel
theorem dX2_letter_21 : decode cX2_letter 21 = .ok (.getfield 11, 3) := by decide +kernel
theorem dX2_letter_24 : decode cX2_letter 24 = .ok (.iload_n 1, 1) := by decide +kernel
theorem dX2_letter_25 : decode cX2_letter 25 = .ok (.iaload, 1) := by decide +kernel
theorem dX2_letter_26 : decode cX2_letter 26 = .ok (.istore_n 3, 1) := by decide +kernel
theorem dX2_letter_27 : decode cX2_letter 27 = .ok (.iconst 3, 1) := by decide +kernel
theorem dX2_letter_28 : decode cX2_letter 28 = .ok (.istore 4, 2) := by decide +kernel
theorem dX2_letter_30 : decode cX2_letter 30 = .ok (.iload 4, 2) := by decide +kernel
theorem dX2_letter_32 : decode cX2_letter 32 = .ok (.iload_n 2, 1) := by decide +kernel
theorem dX2_letter_33 : decode cX2_letter 33 = .ok (.if_icmp .le 14, 3) := by decide +kernel
theorem dX2_letter_36 : decode cX2_letter 36 = .ok (.iload_n 3, 1) := by decide +kernel
theorem dX2_letter_37 : decode cX2_letter 37 = .ok (.bipush 27, 2) := by decide +kernel
theorem dX2_letter_39 : decode cX2_letter 39 = .ok (.idiv, 1) := by decide +kernel
theorem dX2_letter_40 : decode cX2_letter 40 = .ok (.istore_n 3, 1) := by decide +kernel
theorem dX2_letter_41 : decode cX2_letter 41 = .ok (.iinc 4 (-1), 3) := by decide +kernel
theorem dX2_letter_44 : decode cX2_letter 44 = .ok (.goto (-14), 3) := by decide +kernel
theorem dX2_letter_47 : decode cX2_letter 47 = .ok (.iload_n 3, 1) := by decide +kernel
theorem dX2_letter_48 : decode cX2_letter 48 = .ok (.bipush 27, 2) := by decide +kernel
theorem dX2_letter_50 : decode cX2_letter 50 = .ok (.irem, 1) := by decide +kernel
theorem dX2_letter_51 : decode cX2_letter 51 = .ok (.istore 4, 2) := by decide +kernel
theorem dX2_letter_53 : decode cX2_letter 53 = .ok (.iload 4, 2) := by decide +kernel
theorem dX2_letter_55 : decode cX2_letter 55 = .ok (.ifCond .ne 8, 3) := by decide +kernel
theorem dX2_letter_58 : decode cX2_letter 58 = .ok (.bipush (-2), 2) := by decide +kernel
theorem dX2_letter_60 : decode cX2_letter 60 = .ok (.goto 8, 3) := by decide +kernel
theorem dX2_letter_63 : decode cX2_letter 63 = .ok (.bipush 96, 2) := by decide +kernel
theorem dX2_letter_65 : decode cX2_letter 65 = .ok (.iload 4, 2) := by decide +kernel
theorem dX2_letter_67 : decode cX2_letter 67 = .ok (.iadd, 1) := by decide +kernel
theorem dX2_letter_68 : decode cX2_letter 68 = .ok (.ireturn, 1) := by decide +kernel
theorem dX3_init_0 : decode cX3_init 0 = .ok (.aload_n 0, 1) := by decide +kernel
theorem dX3_init_1 : decode cX3_init 1 = .ok (.invokespecial 3, 3) := by decide +kernel
theorem dX3_init_4 : decode cX3_init 4 = .ok (.aload_n 0, 1) := by decide +kernel
theorem dX3_init_5 : decode cX3_init 5 = .ok (.bipush 22, 2) := by decide +kernel
theorem dX3_init_7 : decode cX3_init 7 = .ok (.newarray .int, 2) := by decide +kernel
theorem dX3_init_9 : decode cX3_init 9 = .ok (.putfield 11, 3) := by decide +kernel
theorem dX3_init_12 : decode cX3_init 12 = .ok (.return_, 1) := by decide +kernel
theorem dX3_boatAt_0 : decode cX3_boatAt 0 = .ok (.iload_n 1, 1) := by decide +kernel
theorem dX3_boatAt_1 : decode cX3_boatAt 1 = .ok (.ifCond .lt 20, 3) := by decide +kernel
theorem dX3_boatAt_4 : decode cX3_boatAt 4 = .ok (.iload_n 1, 1) := by decide +kernel
theorem dX3_boatAt_5 : decode cX3_boatAt 5 = .ok (.aload_n 0, 1) := by decide +kernel
theorem dX3_boatAt_6 : decode cX3_boatAt 6 = .ok (.getfield 17, 3) := by decide +kernel
theorem dX3_boatAt_9 : decode cX3_boatAt 9 = .ok (.if_icmp .ge 12, 3) := by decide +kernel
theorem dX3_boatAt_12 : decode cX3_boatAt 12 = .ok (.aload_n 0, 1) := by decide +kernel
theorem dX3_boatAt_13 : decode cX3_boatAt 13 = .ok (.getfield 11, 3) := by decide +kernel
theorem dX3_boatAt_16 : decode cX3_boatAt 16 = .ok (.iload_n 1, 1) := by decide +kernel
theorem dX3_boatAt_17 : decode cX3_boatAt 17 = .ok (.iaload, 1) := by decide +kernel
theorem dX3_boatAt_18 : decode cX3_boatAt 18 = .ok (.goto 5, 3) := by decide +kernel
theorem dX3_boatAt_21 : decode cX3_boatAt 21 = .ok (.bipush (-2), 2) := by decide +kernel
theorem dX3_boatAt_23 : decode cX3_boatAt 23 = .ok (.ireturn, 1) := by decide +kernel
theorem dX3_gather_0 : decode cX3_gather 0 = .ok (.aload_n 0, 1) := by decide +kernel
theorem dX3_gather_1 : decode cX3_gather 1 = .ok (.iconst 0, 1) := by decide +kernel
theorem dX3_gather_2 : decode cX3_gather 2 = .ok (.putfield 17, 3) := by decide +kernel
theorem dX3_gather_5 : decode cX3_gather 5 = .ok (.iconst 0, 1) := by decide +kernel
theorem dX3_gather_6 : decode cX3_gather 6 = .ok (.istore 4, 2) := by decide +kernel
theorem dX3_gather_8 : decode cX3_gather 8 = .ok (.iload 4, 2) := by decide +kernel
theorem dX3_gather_10 : decode cX3_gather 10 = .ok (.aload_n 1, 1) := by decide +kernel
theorem dX3_gather_11 : decode cX3_gather 11 = .ok (.getfield 21, 3) := by decide +kernel
theorem dX3_gather_14 : decode cX3_gather 14 = .ok (.if_icmp .ge 38, 3) := by decide +kernel
theorem dX3_gather_17 : decode cX3_gather 17 = .ok (.aload_n 1, 1) := by decide +kernel
theorem dX3_gather_18 : decode cX3_gather 18 = .ok (.getfield 22, 3) := by decide +kernel
theorem dX3_gather_21 : decode cX3_gather 21 = .ok (.iload 4, 2) := by decide +kernel
theorem dX3_gather_23 : decode cX3_gather 23 = .ok (.iaload, 1) := by decide +kernel
theorem dX3_gather_24 : decode cX3_gather 24 = .ok (.iload_n 2, 1) := by decide +kernel
theorem dX3_gather_25 : decode cX3_gather 25 = .ok (.if_icmp .ne 21, 3) := by decide +kernel
theorem dX3_gather_28 : decode cX3_gather 28 = .ok (.aload_n 1, 1) := by decide +kernel
theorem dX3_gather_29 : decode cX3_gather 29 = .ok (.getfield 25, 3) := by decide +kernel
theorem dX3_gather_32 : decode cX3_gather 32 = .ok (.iload 4, 2) := by decide +kernel
theorem dX3_gather_34 : decode cX3_gather 34 = .ok (.baload, 1) := by decide +kernel
theorem dX3_gather_35 : decode cX3_gather 35 = .ok (.iload_n 3, 1) := by decide +kernel
theorem dX3_gather_36 : decode cX3_gather 36 = .ok (.if_icmp .ne 10, 3) := by decide +kernel
theorem dX3_gather_39 : decode cX3_gather 39 = .ok (.aload_n 0, 1) := by decide +kernel
theorem dX3_gather_40 : decode cX3_gather 40 = .ok (.aload_n 1, 1) := by decide +kernel
theorem dX3_gather_41 : decode cX3_gather 41 = .ok (.iload 4, 2) := by decide +kernel
theorem dX3_gather_43 : decode cX3_gather 43 = .ok (.invokevirtual 29, 3) := by decide +kernel
theorem dX3_gather_46 : decode cX3_gather 46 = .ok (.iinc 4 1, 3) := by decide +kernel
theorem dX3_gather_49 : decode cX3_gather 49 = .ok (.goto (-41), 3) := by decide +kernel
theorem dX3_gather_52 : decode cX3_gather 52 = .ok (.return_, 1) := by decide +kernel
theorem dX3_join_0 : decode cX3_join 0 = .ok (.aload_n 0, 1) := by decide +kernel
theorem dX3_join_1 : decode cX3_join 1 = .ok (.getfield 17, 3) := by decide +kernel
theorem dX3_join_4 : decode cX3_join 4 = .ok (.bipush 22, 2) := by decide +kernel
theorem dX3_join_6 : decode cX3_join 6 = .ok (.if_icmp .lt 4, 3) := by decide +kernel
theorem dX3_join_9 : decode cX3_join 9 = .ok (.return_, 1) := by decide +kernel
theorem dX3_join_10 : decode cX3_join 10 = .ok (.aload_n 0, 1) := by decide +kernel
theorem dX3_join_11 : decode cX3_join 11 = .ok (.getfield 17, 3) := by decide +kernel
theorem dX3_join_14 : decode cX3_join 14 = .ok (.istore_n 3, 1) := by decide +kernel
theorem dX3_join_15 : decode cX3_join 15 = .ok (.iload_n 3, 1) := by decide +kernel
theorem dX3_join_16 : decode cX3_join 16 = .ok (.ifCond .le 43, 3) := by decide +kernel
theorem dX3_join_19 : decode cX3_join 19 = .ok (.aload_n 1, 1) := by decide +kernel
theorem dX3_join_20 : decode cX3_join 20 = .ok (.aload_n 0, 1) := by decide +kernel
theorem dX3_join_21 : decode cX3_join 21 = .ok (.getfield 11, 3) := by decide +kernel
theorem dX3_join_24 : decode cX3_join 24 = .ok (.iload_n 3, 1) := by decide +kernel
theorem dX3_join_25 : decode cX3_join 25 = .ok (.iconst 1, 1) := by decide +kernel
theorem dX3_join_26 : decode cX3_join 26 = .ok (.isub, 1) := by decide +kernel
theorem dX3_join_27 : decode cX3_join 27 = .ok (.iaload, 1) := by decide +kernel
theorem dX3_join_28 : decode cX3_join 28 = .ok (.invokevirtual 33, 3) := by decide +kernel
theorem dX3_join_31 : decode cX3_join 31 = .ok (.aload_n 1, 1) := by decide +kernel
theorem dX3_join_32 : decode cX3_join 32 = .ok (.iload_n 2, 1) := by decide +kernel
theorem dX3_join_33 : decode cX3_join 33 = .ok (.invokevirtual 33, 3) := by decide +kernel
theorem dX3_join_36 : decode cX3_join 36 = .ok (.if_icmp .ge 23, 3) := by decide +kernel
theorem dX3_join_39 : decode cX3_join 39 = .ok (.aload_n 0, 1) := by decide +kernel
theorem dX3_join_40 : decode cX3_join 40 = .ok (.getfield 11, 3) := by decide +kernel
theorem dX3_join_43 : decode cX3_join 43 = .ok (.iload_n 3, 1) := by decide +kernel
theorem dX3_join_44 : decode cX3_join 44 = .ok (.aload_n 0, 1) := by decide +kernel
theorem dX3_join_45 : decode cX3_join 45 = .ok (.getfield 11, 3) := by decide +kernel
theorem dX3_join_48 : decode cX3_join 48 = .ok (.iload_n 3, 1) := by decide +kernel
theorem dX3_join_49 : decode cX3_join 49 = .ok (.iconst 1, 1) := by decide +kernel
theorem dX3_join_50 : decode cX3_join 50 = .ok (.isub, 1) := by decide +kernel
theorem dX3_join_51 : decode cX3_join 51 = .ok (.iaload, 1) := by decide +kernel
theorem dX3_join_52 : decode cX3_join 52 = .ok (.iastore, 1) := by decide +kernel
theorem dX3_join_53 : decode cX3_join 53 = .ok (.iinc 3 (-1), 3) := by decide +kernel
theorem dX3_join_56 : decode cX3_join 56 = .ok (.goto (-41), 3) := by decide +kernel
theorem dX3_join_59 : decode cX3_join 59 = .ok (.aload_n 0, 1) := by decide +kernel
theorem dX3_join_60 : decode cX3_join 60 = .ok (.getfield 11, 3) := by decide +kernel
theorem dX3_join_63 : decode cX3_join 63 = .ok (.iload_n 3, 1) := by decide +kernel
theorem dX3_join_64 : decode cX3_join 64 = .ok (.iload_n 2, 1) := by decide +kernel
theorem dX3_join_65 : decode cX3_join 65 = .ok (.iastore, 1) := by decide +kernel
theorem dX3_join_66 : decode cX3_join 66 = .ok (.aload_n 0, 1) := by decide +kernel
theorem dX3_join_67 : decode cX3_join 67 = .ok (.dup, 1) := by decide +kernel
theorem dX3_join_68 : decode cX3_join 68 = .ok (.getfield 17, 3) := by decide +kernel
theorem dX3_join_71 : decode cX3_join 71 = .ok (.iconst 1, 1) := by decide +kernel
theorem dX3_join_72 : decode cX3_join 72 = .ok (.iadd, 1) := by decide +kernel
theorem dX3_join_73 : decode cX3_join 73 = .ok (.putfield 17, 3) := by decide +kernel
theorem dX3_join_76 : decode cX3_join 76 = .ok (.return_, 1) := by decide +kernel
theorem dX4_init_0 : decode cX4_init 0 = .ok (.aload_n 0, 1) := by decide +kernel
theorem dX4_init_1 : decode cX4_init 1 = .ok (.invokespecial 3, 3) := by decide +kernel
theorem dX4_init_4 : decode cX4_init 4 = .ok (.return_, 1) := by decide +kernel
theorem dX4_done_0 : decode cX4_done 0 = .ok (.aload_n 0, 1) := by decide +kernel
theorem dX4_done_1 : decode cX4_done 1 = .ok (.getfield 9, 3) := by decide +kernel
theorem dX4_done_4 : decode cX4_done 4 = .ok (.aload_n 0, 1) := by decide +kernel
theorem dX4_done_5 : decode cX4_done 5 = .ok (.getfield 15, 3) := by decide +kernel
theorem dX4_done_8 : decode cX4_done 8 = .ok (.iadd, 1) := by decide +kernel
theorem dX4_done_9 : decode cX4_done 9 = .ok (.ireturn, 1) := by decide +kernel
theorem dX4_go_0 : decode cX4_go 0 = .ok (.aload_n 0, 1) := by decide +kernel
theorem dX4_go_1 : decode cX4_go 1 = .ok (.iconst 0, 1) := by decide +kernel
theorem dX4_go_2 : decode cX4_go 2 = .ok (.putfield 9, 3) := by decide +kernel
theorem dX4_go_5 : decode cX4_go 5 = .ok (.aload_n 0, 1) := by decide +kernel
theorem dX4_go_6 : decode cX4_go 6 = .ok (.iconst 0, 1) := by decide +kernel
theorem dX4_go_7 : decode cX4_go 7 = .ok (.putfield 15, 3) := by decide +kernel
theorem dX4_go_10 : decode cX4_go 10 = .ok (.aload_n 0, 1) := by decide +kernel
theorem dX4_go_11 : decode cX4_go 11 = .ok (.iconst 0, 1) := by decide +kernel
theorem dX4_go_12 : decode cX4_go 12 = .ok (.putfield 18, 3) := by decide +kernel
theorem dX4_go_15 : decode cX4_go 15 = .ok (.aload_n 3, 1) := by decide +kernel
theorem dX4_go_16 : decode cX4_go 16 = .ok (.getfield 21, 3) := by decide +kernel
theorem dX4_go_19 : decode cX4_go 19 = .ok (.aload 4, 2) := by decide +kernel
theorem dX4_go_21 : decode cX4_go 21 = .ok (.getfield 21, 3) := by decide +kernel
theorem dX4_go_24 : decode cX4_go 24 = .ok (.iadd, 1) := by decide +kernel
theorem dX4_go_25 : decode cX4_go 25 = .ok (.istore 7, 2) := by decide +kernel
theorem dX4_go_27 : decode cX4_go 27 = .ok (.iconst 0, 1) := by decide +kernel
theorem dX4_go_28 : decode cX4_go 28 = .ok (.istore 8, 2) := by decide +kernel
theorem dX4_go_30 : decode cX4_go 30 = .ok (.iload 8, 2) := by decide +kernel
theorem dX4_go_32 : decode cX4_go 32 = .ok (.iload 7, 2) := by decide +kernel
theorem dX4_go_34 : decode cX4_go 34 = .ok (.if_icmp .ge 127, 3) := by decide +kernel
theorem dX4_go_37 : decode cX4_go 37 = .ok (.aload_n 1, 1) := by decide +kernel
theorem dX4_go_38 : decode cX4_go 38 = .ok (.iload 5, 2) := by decide +kernel
theorem dX4_go_40 : decode cX4_go 40 = .ok (.invokevirtual 26, 3) := by decide +kernel
theorem dX4_go_43 : decode cX4_go 43 = .ok (.ifCond .eq 118, 3) := by decide +kernel
theorem dX4_go_46 : decode cX4_go 46 = .ok (.aload_n 0, 1) := by decide +kernel
theorem dX4_go_47 : decode cX4_go 47 = .ok (.aload_n 2, 1) := by decide +kernel
theorem dX4_go_48 : decode cX4_go 48 = .ok (.aload_n 3, 1) := by decide +kernel
theorem dX4_go_49 : decode cX4_go 49 = .ok (.aload 4, 2) := by decide +kernel
theorem dX4_go_51 : decode cX4_go 51 = .ok (.aload_n 1, 1) := by decide +kernel
theorem dX4_go_52 : decode cX4_go 52 = .ok (.getfield 32, 3) := by decide +kernel
theorem dX4_go_55 : decode cX4_go 55 = .ok (.iload 5, 2) := by decide +kernel
theorem dX4_go_57 : decode cX4_go 57 = .ok (.baload, 1) := by decide +kernel
theorem dX4_go_58 : decode cX4_go 58 = .ok (.iload 6, 2) := by decide +kernel
theorem dX4_go_60 : decode cX4_go 60 = .ok (.invokevirtual 36, 3) := by decide +kernel
theorem dX4_go_63 : decode cX4_go 63 = .ok (.istore 9, 2) := by decide +kernel
theorem dX4_go_65 : decode cX4_go 65 = .ok (.iload 9, 2) := by decide +kernel
theorem dX4_go_67 : decode cX4_go 67 = .ok (.ifCond .eq 14, 3) := by decide +kernel
theorem dX4_go_70 : decode cX4_go 70 = .ok (.aload_n 3, 1) := by decide +kernel
theorem dX4_go_71 : decode cX4_go 71 = .ok (.aload_n 0, 1) := by decide +kernel
theorem dX4_go_72 : decode cX4_go 72 = .ok (.getfield 9, 3) := by decide +kernel
theorem dX4_go_75 : decode cX4_go 75 = .ok (.invokevirtual 40, 3) := by decide +kernel
theorem dX4_go_78 : decode cX4_go 78 = .ok (.goto 12, 3) := by decide +kernel
theorem dX4_go_81 : decode cX4_go 81 = .ok (.aload 4, 2) := by decide +kernel
theorem dX4_go_83 : decode cX4_go 83 = .ok (.aload_n 0, 1) := by decide +kernel
theorem dX4_go_84 : decode cX4_go 84 = .ok (.getfield 15, 3) := by decide +kernel
theorem dX4_go_87 : decode cX4_go 87 = .ok (.invokevirtual 40, 3) := by decide +kernel
theorem dX4_go_90 : decode cX4_go 90 = .ok (.istore 10, 2) := by decide +kernel
theorem dX4_go_92 : decode cX4_go 92 = .ok (.aload_n 1, 1) := by decide +kernel
theorem dX4_go_93 : decode cX4_go 93 = .ok (.iload 5, 2) := by decide +kernel
theorem dX4_go_95 : decode cX4_go 95 = .ok (.iload 9, 2) := by decide +kernel
theorem dX4_go_97 : decode cX4_go 97 = .ok (.aload_n 2, 1) := by decide +kernel
theorem dX4_go_98 : decode cX4_go 98 = .ok (.iload 10, 2) := by decide +kernel
theorem dX4_go_100 : decode cX4_go 100 = .ok (.invokevirtual 44, 3) := by decide +kernel
theorem dX4_go_103 : decode cX4_go 103 = .ok (.invokevirtual 49, 3) := by decide +kernel
theorem dX4_go_106 : decode cX4_go 106 = .ok (.istore 11, 2) := by decide +kernel
theorem dX4_go_108 : decode cX4_go 108 = .ok (.iload 11, 2) := by decide +kernel
theorem dX4_go_110 : decode cX4_go 110 = .ok (.ldc 53, 2) := by decide +kernel
theorem dX4_go_112 : decode cX4_go 112 = .ok (.if_icmp .ne 4, 3) := by decide +kernel
theorem dX4_go_115 : decode cX4_go 115 = .ok (.return_, 1) := by decide +kernel
theorem dX4_go_116 : decode cX4_go 116 = .ok (.aload_n 0, 1) := by decide +kernel
theorem dX4_go_117 : decode cX4_go 117 = .ok (.dup, 1) := by decide +kernel
theorem dX4_go_118 : decode cX4_go 118 = .ok (.getfield 18, 3) := by decide +kernel
theorem dX4_go_121 : decode cX4_go 121 = .ok (.iload 11, 2) := by decide +kernel
theorem dX4_go_123 : decode cX4_go 123 = .ok (.iadd, 1) := by decide +kernel
theorem dX4_go_124 : decode cX4_go 124 = .ok (.putfield 18, 3) := by decide +kernel
theorem dX4_go_127 : decode cX4_go 127 = .ok (.iload 9, 2) := by decide +kernel
theorem dX4_go_129 : decode cX4_go 129 = .ok (.ifCond .eq 16, 3) := by decide +kernel
theorem dX4_go_132 : decode cX4_go 132 = .ok (.aload_n 0, 1) := by decide +kernel
theorem dX4_go_133 : decode cX4_go 133 = .ok (.dup, 1) := by decide +kernel
theorem dX4_go_134 : decode cX4_go 134 = .ok (.getfield 9, 3) := by decide +kernel
theorem dX4_go_137 : decode cX4_go 137 = .ok (.iconst 1, 1) := by decide +kernel
theorem dX4_go_138 : decode cX4_go 138 = .ok (.iadd, 1) := by decide +kernel
theorem dX4_go_139 : decode cX4_go 139 = .ok (.putfield 9, 3) := by decide +kernel
theorem dX4_go_142 : decode cX4_go 142 = .ok (.goto 13, 3) := by decide +kernel
theorem dX4_go_145 : decode cX4_go 145 = .ok (.aload_n 0, 1) := by decide +kernel
theorem dX4_go_146 : decode cX4_go 146 = .ok (.dup, 1) := by decide +kernel
theorem dX4_go_147 : decode cX4_go 147 = .ok (.getfield 15, 3) := by decide +kernel
theorem dX4_go_150 : decode cX4_go 150 = .ok (.iconst 1, 1) := by decide +kernel
theorem dX4_go_151 : decode cX4_go 151 = .ok (.iadd, 1) := by decide +kernel
theorem dX4_go_152 : decode cX4_go 152 = .ok (.putfield 15, 3) := by decide +kernel
theorem dX4_go_155 : decode cX4_go 155 = .ok (.iinc 8 1, 3) := by decide +kernel
theorem dX4_go_158 : decode cX4_go 158 = .ok (.goto (-128), 3) := by decide +kernel
theorem dX4_go_161 : decode cX4_go 161 = .ok (.return_, 1) := by decide +kernel
theorem dX4_isFromBelowNext_0 : decode cX4_isFromBelowNext 0 = .ok (.aload_n 0, 1) := by decide +kernel
theorem dX4_isFromBelowNext_1 : decode cX4_isFromBelowNext 1 = .ok (.getfield 9, 3) := by decide +kernel
theorem dX4_isFromBelowNext_4 : decode cX4_isFromBelowNext 4 = .ok (.aload_n 2, 1) := by decide +kernel
theorem dX4_isFromBelowNext_5 : decode cX4_isFromBelowNext 5 = .ok (.getfield 21, 3) := by decide +kernel
theorem dX4_isFromBelowNext_8 : decode cX4_isFromBelowNext 8 = .ok (.if_icmp .ge 14, 3) := by decide +kernel
theorem dX4_isFromBelowNext_11 : decode cX4_isFromBelowNext 11 = .ok (.aload_n 0, 1) := by decide +kernel
theorem dX4_isFromBelowNext_12 : decode cX4_isFromBelowNext 12 = .ok (.getfield 15, 3) := by decide +kernel
theorem dX4_isFromBelowNext_15 : decode cX4_isFromBelowNext 15 = .ok (.aload_n 3, 1) := by decide +kernel
theorem dX4_isFromBelowNext_16 : decode cX4_isFromBelowNext 16 = .ok (.getfield 21, 3) := by decide +kernel
theorem dX4_isFromBelowNext_19 : decode cX4_isFromBelowNext 19 = .ok (.if_icmp .lt 20, 3) := by decide +kernel
theorem dX4_isFromBelowNext_22 : decode cX4_isFromBelowNext 22 = .ok (.aload_n 0, 1) := by decide +kernel
theorem dX4_isFromBelowNext_23 : decode cX4_isFromBelowNext 23 = .ok (.getfield 9, 3) := by decide +kernel
theorem dX4_isFromBelowNext_26 : decode cX4_isFromBelowNext 26 = .ok (.aload_n 2, 1) := by decide +kernel
theorem dX4_isFromBelowNext_27 : decode cX4_isFromBelowNext 27 = .ok (.getfield 21, 3) := by decide +kernel
theorem dX4_isFromBelowNext_30 : decode cX4_isFromBelowNext 30 = .ok (.if_icmp .ge 7, 3) := by decide +kernel
theorem dX4_isFromBelowNext_33 : decode cX4_isFromBelowNext 33 = .ok (.iconst 1, 1) := by decide +kernel
theorem dX4_isFromBelowNext_34 : decode cX4_isFromBelowNext 34 = .ok (.goto 4, 3) := by decide +kernel
theorem dX4_isFromBelowNext_37 : decode cX4_isFromBelowNext 37 = .ok (.iconst 0, 1) := by decide +kernel
theorem dX4_isFromBelowNext_38 : decode cX4_isFromBelowNext 38 = .ok (.ireturn, 1) := by decide +kernel
theorem dX4_isFromBelowNext_39 : decode cX4_isFromBelowNext 39 = .ok (.iload 5, 2) := by decide +kernel
theorem dX4_isFromBelowNext_41 : decode cX4_isFromBelowNext 41 = .ok (.tableswitch 67 0 2 #[27, 44, 65], 27) := by decide +kernel
theorem dX4_isFromBelowNext_68 : decode cX4_isFromBelowNext 68 = .ok (.aload_n 0, 1) := by decide +kernel
theorem dX4_isFromBelowNext_69 : decode cX4_isFromBelowNext 69 = .ok (.getfield 9, 3) := by decide +kernel
theorem dX4_isFromBelowNext_72 : decode cX4_isFromBelowNext 72 = .ok (.aload_n 0, 1) := by decide +kernel
theorem dX4_isFromBelowNext_73 : decode cX4_isFromBelowNext 73 = .ok (.getfield 15, 3) := by decide +kernel
theorem dX4_isFromBelowNext_76 : decode cX4_isFromBelowNext 76 = .ok (.if_icmp .gt 7, 3) := by decide +kernel
theorem dX4_isFromBelowNext_79 : decode cX4_isFromBelowNext 79 = .ok (.iconst 1, 1) := by decide +kernel
theorem dX4_isFromBelowNext_80 : decode cX4_isFromBelowNext 80 = .ok (.goto 4, 3) := by decide +kernel
theorem dX4_isFromBelowNext_83 : decode cX4_isFromBelowNext 83 = .ok (.iconst 0, 1) := by decide +kernel
theorem dX4_isFromBelowNext_84 : decode cX4_isFromBelowNext 84 = .ok (.ireturn, 1) := by decide +kernel
theorem dX4_isFromBelowNext_85 : decode cX4_isFromBelowNext 85 = .ok (.aload_n 1, 1) := by decide +kernel
theorem dX4_isFromBelowNext_86 : decode cX4_isFromBelowNext 86 = .ok (.aload_n 2, 1) := by decide +kernel
theorem dX4_isFromBelowNext_87 : decode cX4_isFromBelowNext 87 = .ok (.aload_n 0, 1) := by decide +kernel
theorem dX4_isFromBelowNext_88 : decode cX4_isFromBelowNext 88 = .ok (.getfield 9, 3) := by decide +kernel
theorem dX4_isFromBelowNext_91 : decode cX4_isFromBelowNext 91 = .ok (.invokevirtual 40, 3) := by decide +kernel
theorem dX4_isFromBelowNext_94 : decode cX4_isFromBelowNext 94 = .ok (.aload_n 3, 1) := by decide +kernel
theorem dX4_isFromBelowNext_95 : decode cX4_isFromBelowNext 95 = .ok (.aload_n 0, 1) := by decide +kernel
theorem dX4_isFromBelowNext_96 : decode cX4_isFromBelowNext 96 = .ok (.getfield 15, 3) := by decide +kernel
theorem dX4_isFromBelowNext_99 : decode cX4_isFromBelowNext 99 = .ok (.invokevirtual 40, 3) := by decide +kernel
theorem dX4_isFromBelowNext_102 : decode cX4_isFromBelowNext 102 = .ok (.invokestatic 54, 3) := by decide +kernel
theorem dX4_isFromBelowNext_105 : decode cX4_isFromBelowNext 105 = .ok (.ireturn, 1) := by decide +kernel
theorem dX4_isFromBelowNext_106 : decode cX4_isFromBelowNext 106 = .ok (.iconst 1, 1) := by decide +kernel
theorem dX4_isFromBelowNext_107 : decode cX4_isFromBelowNext 107 = .ok (.ireturn, 1) := by decide +kernel
theorem dX4_isFromBelowNext_108 : decode cX4_isFromBelowNext 108 = .ok (.iload 4, 2) := by decide +kernel
theorem dX4_isFromBelowNext_110 : decode cX4_isFromBelowNext 110 = .ok (.ifCond .ne 7, 3) := by decide +kernel
theorem dX4_isFromBelowNext_113 : decode cX4_isFromBelowNext 113 = .ok (.iconst 1, 1) := by decide +kernel
theorem dX4_isFromBelowNext_114 : decode cX4_isFromBelowNext 114 = .ok (.goto 4, 3) := by decide +kernel
theorem dX4_isFromBelowNext_117 : decode cX4_isFromBelowNext 117 = .ok (.iconst 0, 1) := by decide +kernel
theorem dX4_isFromBelowNext_118 : decode cX4_isFromBelowNext 118 = .ok (.ireturn, 1) := by decide +kernel
theorem dX4_isAhead_0 : decode cX4_isAhead 0 = .ok (.aload_n 0, 1) := by decide +kernel
theorem dX4_isAhead_1 : decode cX4_isAhead 1 = .ok (.iload_n 1, 1) := by decide +kernel
theorem dX4_isAhead_2 : decode cX4_isAhead 2 = .ok (.invokevirtual 58, 3) := by decide +kernel
theorem dX4_isAhead_5 : decode cX4_isAhead 5 = .ok (.istore_n 3, 1) := by decide +kernel
theorem dX4_isAhead_6 : decode cX4_isAhead 6 = .ok (.aload_n 0, 1) := by decide +kernel
theorem dX4_isAhead_7 : decode cX4_isAhead 7 = .ok (.iload_n 2, 1) := by decide +kernel
theorem dX4_isAhead_8 : decode cX4_isAhead 8 = .ok (.invokevirtual 58, 3) := by decide +kernel
theorem dX4_isAhead_11 : decode cX4_isAhead 11 = .ok (.istore 4, 2) := by decide +kernel
theorem dX4_isAhead_13 : decode cX4_isAhead 13 = .ok (.iload_n 3, 1) := by decide +kernel
theorem dX4_isAhead_14 : decode cX4_isAhead 14 = .ok (.iload 4, 2) := by decide +kernel
theorem dX4_isAhead_16 : decode cX4_isAhead 16 = .ok (.if_icmp .gt 14, 3) := by decide +kernel
theorem dX4_isAhead_19 : decode cX4_isAhead 19 = .ok (.iload_n 3, 1) := by decide +kernel
theorem dX4_isAhead_20 : decode cX4_isAhead 20 = .ok (.iload 4, 2) := by decide +kernel
theorem dX4_isAhead_22 : decode cX4_isAhead 22 = .ok (.if_icmp .ne 12, 3) := by decide +kernel
theorem dX4_isAhead_25 : decode cX4_isAhead 25 = .ok (.iload_n 1, 1) := by decide +kernel
theorem dX4_isAhead_26 : decode cX4_isAhead 26 = .ok (.iload_n 2, 1) := by decide +kernel
theorem dX4_isAhead_27 : decode cX4_isAhead 27 = .ok (.if_icmp .ge 7, 3) := by decide +kernel
theorem dX4_isAhead_30 : decode cX4_isAhead 30 = .ok (.iconst 1, 1) := by decide +kernel
theorem dX4_isAhead_31 : decode cX4_isAhead 31 = .ok (.goto 4, 3) := by decide +kernel
theorem dX4_isAhead_34 : decode cX4_isAhead 34 = .ok (.iconst 0, 1) := by decide +kernel
theorem dX4_isAhead_35 : decode cX4_isAhead 35 = .ok (.ireturn, 1) := by decide +kernel
theorem dX5_init_0 : decode cX5_init 0 = .ok (.aload_n 0, 1) := by decide +kernel
theorem dX5_init_1 : decode cX5_init 1 = .ok (.invokespecial 3, 3) := by decide +kernel
theorem dX5_init_4 : decode cX5_init 4 = .ok (.aload_n 0, 1) := by decide +kernel
theorem dX5_init_5 : decode cX5_init 5 = .ok (.bipush 118, 2) := by decide +kernel
theorem dX5_init_7 : decode cX5_init 7 = .ok (.newarray .int, 2) := by decide +kernel
theorem dX5_init_9 : decode cX5_init 9 = .ok (.putfield 11, 3) := by decide +kernel
theorem dX5_init_12 : decode cX5_init 12 = .ok (.return_, 1) := by decide +kernel
theorem dX5_copyFrom_0 : decode cX5_copyFrom 0 = .ok (.aload_n 1, 1) := by decide +kernel
theorem dX5_copyFrom_1 : decode cX5_copyFrom 1 = .ok (.getfield 11, 3) := by decide +kernel
theorem dX5_copyFrom_4 : decode cX5_copyFrom 4 = .ok (.iconst 0, 1) := by decide +kernel
theorem dX5_copyFrom_5 : decode cX5_copyFrom 5 = .ok (.aload_n 0, 1) := by decide +kernel
theorem dX5_copyFrom_6 : decode cX5_copyFrom 6 = .ok (.getfield 11, 3) := by decide +kernel
theorem dX5_copyFrom_9 : decode cX5_copyFrom 9 = .ok (.iconst 0, 1) := by decide +kernel
theorem dX5_copyFrom_10 : decode cX5_copyFrom 10 = .ok (.bipush 118, 2) := by decide +kernel
theorem dX5_copyFrom_12 : decode cX5_copyFrom 12 = .ok (.invokestatic 15, 3) := by decide +kernel
theorem dX5_copyFrom_15 : decode cX5_copyFrom 15 = .ok (.return_, 1) := by decide +kernel
theorem dX5_add_0 : decode cX5_add 0 = .ok (.iload_n 1, 1) := by decide +kernel
theorem dX5_add_1 : decode cX5_add 1 = .ok (.bipush (-9), 2) := by decide +kernel
theorem dX5_add_3 : decode cX5_add 3 = .ok (.if_icmp .lt 22, 3) := by decide +kernel
theorem dX5_add_6 : decode cX5_add 6 = .ok (.iload_n 1, 1) := by decide +kernel
theorem dX5_add_7 : decode cX5_add 7 = .ok (.bipush 108, 2) := by decide +kernel
theorem dX5_add_9 : decode cX5_add 9 = .ok (.if_icmp .gt 16, 3) := by decide +kernel
theorem dX5_add_12 : decode cX5_add 12 = .ok (.aload_n 0, 1) := by decide +kernel
theorem dX5_add_13 : decode cX5_add 13 = .ok (.getfield 11, 3) := by decide +kernel
theorem dX5_add_16 : decode cX5_add 16 = .ok (.iload_n 1, 1) := by decide +kernel
theorem dX5_add_17 : decode cX5_add 17 = .ok (.bipush (-9), 2) := by decide +kernel
theorem dX5_add_19 : decode cX5_add 19 = .ok (.isub, 1) := by decide +kernel
theorem dX5_add_20 : decode cX5_add 20 = .ok (.dup2, 1) := by decide +kernel
theorem dX5_add_21 : decode cX5_add 21 = .ok (.iaload, 1) := by decide +kernel
theorem dX5_add_22 : decode cX5_add 22 = .ok (.iconst 1, 1) := by decide +kernel
theorem dX5_add_23 : decode cX5_add 23 = .ok (.iadd, 1) := by decide +kernel
theorem dX5_add_24 : decode cX5_add 24 = .ok (.iastore, 1) := by decide +kernel
theorem dX5_add_25 : decode cX5_add 25 = .ok (.return_, 1) := by decide +kernel
theorem dX5_unlike_0 : decode cX5_unlike 0 = .ok (.iconst 0, 1) := by decide +kernel
theorem dX5_unlike_1 : decode cX5_unlike 1 = .ok (.istore_n 1, 1) := by decide +kernel
theorem dX5_unlike_2 : decode cX5_unlike 2 = .ok (.iconst 0, 1) := by decide +kernel
theorem dX5_unlike_3 : decode cX5_unlike 3 = .ok (.istore_n 2, 1) := by decide +kernel
theorem dX5_unlike_4 : decode cX5_unlike 4 = .ok (.iload_n 2, 1) := by decide +kernel
theorem dX5_unlike_5 : decode cX5_unlike 5 = .ok (.aload_n 0, 1) := by decide +kernel
theorem dX5_unlike_6 : decode cX5_unlike 6 = .ok (.getfield 11, 3) := by decide +kernel
theorem dX5_unlike_9 : decode cX5_unlike 9 = .ok (.arraylength, 1) := by decide +kernel
theorem dX5_unlike_10 : decode cX5_unlike 10 = .ok (.if_icmp .ge 21, 3) := by decide +kernel
theorem dX5_unlike_13 : decode cX5_unlike 13 = .ok (.aload_n 0, 1) := by decide +kernel
theorem dX5_unlike_14 : decode cX5_unlike 14 = .ok (.getfield 11, 3) := by decide +kernel
theorem dX5_unlike_17 : decode cX5_unlike 17 = .ok (.iload_n 2, 1) := by decide +kernel
theorem dX5_unlike_18 : decode cX5_unlike 18 = .ok (.iaload, 1) := by decide +kernel
theorem dX5_unlike_19 : decode cX5_unlike 19 = .ok (.ifCond .le 6, 3) := by decide +kernel
theorem dX5_unlike_22 : decode cX5_unlike 22 = .ok (.iinc 1 1, 3) := by decide +kernel
theorem dX5_unlike_25 : decode cX5_unlike 25 = .ok (.iinc 2 1, 3) := by decide +kernel
theorem dX5_unlike_28 : decode cX5_unlike 28 = .ok (.goto (-24), 3) := by decide +kernel
theorem dX5_unlike_31 : decode cX5_unlike 31 = .ok (.iload_n 1, 1) := by decide +kernel
theorem dX5_unlike_32 : decode cX5_unlike 32 = .ok (.ireturn, 1) := by decide +kernel
theorem dX5_upTo_0 : decode cX5_upTo 0 = .ok (.iconst 0, 1) := by decide +kernel
theorem dX5_upTo_1 : decode cX5_upTo 1 = .ok (.istore_n 2, 1) := by decide +kernel
theorem dX5_upTo_2 : decode cX5_upTo 2 = .ok (.iconst 0, 1) := by decide +kernel
theorem dX5_upTo_3 : decode cX5_upTo 3 = .ok (.istore_n 3, 1) := by decide +kernel
theorem dX5_upTo_4 : decode cX5_upTo 4 = .ok (.iload_n 3, 1) := by decide +kernel
theorem dX5_upTo_5 : decode cX5_upTo 5 = .ok (.aload_n 0, 1) := by decide +kernel
theorem dX5_upTo_6 : decode cX5_upTo 6 = .ok (.getfield 11, 3) := by decide +kernel
theorem dX5_upTo_9 : decode cX5_upTo 9 = .ok (.arraylength, 1) := by decide +kernel
theorem dX5_upTo_10 : decode cX5_upTo 10 = .ok (.if_icmp .ge 26, 3) := by decide +kernel
theorem dX5_upTo_13 : decode cX5_upTo 13 = .ok (.iload_n 3, 1) := by decide +kernel
theorem dX5_upTo_14 : decode cX5_upTo 14 = .ok (.bipush (-9), 2) := by decide +kernel
theorem dX5_upTo_16 : decode cX5_upTo 16 = .ok (.iadd, 1) := by decide +kernel
theorem dX5_upTo_17 : decode cX5_upTo 17 = .ok (.iload_n 1, 1) := by decide +kernel
theorem dX5_upTo_18 : decode cX5_upTo 18 = .ok (.if_icmp .gt 18, 3) := by decide +kernel
theorem dX5_upTo_21 : decode cX5_upTo 21 = .ok (.iload_n 2, 1) := by decide +kernel
theorem dX5_upTo_22 : decode cX5_upTo 22 = .ok (.aload_n 0, 1) := by decide +kernel
theorem dX5_upTo_23 : decode cX5_upTo 23 = .ok (.getfield 11, 3) := by decide +kernel
theorem dX5_upTo_26 : decode cX5_upTo 26 = .ok (.iload_n 3, 1) := by decide +kernel
theorem dX5_upTo_27 : decode cX5_upTo 27 = .ok (.iaload, 1) := by decide +kernel
theorem dX5_upTo_28 : decode cX5_upTo 28 = .ok (.iadd, 1) := by decide +kernel
theorem dX5_upTo_29 : decode cX5_upTo 29 = .ok (.istore_n 2, 1) := by decide +kernel
theorem dX5_upTo_30 : decode cX5_upTo 30 = .ok (.iinc 3 1, 3) := by decide +kernel
theorem dX5_upTo_33 : decode cX5_upTo 33 = .ok (.goto (-29), 3) := by decide +kernel
theorem dX5_upTo_36 : decode cX5_upTo 36 = .ok (.iload_n 2, 1) := by decide +kernel
theorem dX5_upTo_37 : decode cX5_upTo 37 = .ok (.ireturn, 1) := by decide +kernel
theorem dX5_row_0 : decode cX5_row 0 = .ok (.iconst 0, 1) := by decide +kernel
theorem dX5_row_1 : decode cX5_row 1 = .ok (.istore_n 3, 1) := by decide +kernel
theorem dX5_row_2 : decode cX5_row 2 = .ok (.iconst 0, 1) := by decide +kernel
theorem dX5_row_3 : decode cX5_row 3 = .ok (.istore 4, 2) := by decide +kernel
theorem dX5_row_5 : decode cX5_row 5 = .ok (.iload 4, 2) := by decide +kernel
theorem dX5_row_7 : decode cX5_row 7 = .ok (.aload_n 0, 1) := by decide +kernel
theorem dX5_row_8 : decode cX5_row 8 = .ok (.getfield 11, 3) := by decide +kernel
theorem dX5_row_11 : decode cX5_row 11 = .ok (.arraylength, 1) := by decide +kernel
theorem dX5_row_12 : decode cX5_row 12 = .ok (.if_icmp .ge 47, 3) := by decide +kernel
theorem dX5_row_15 : decode cX5_row 15 = .ok (.aload_n 0, 1) := by decide +kernel
theorem dX5_row_16 : decode cX5_row 16 = .ok (.getfield 11, 3) := by decide +kernel
theorem dX5_row_19 : decode cX5_row 19 = .ok (.iload 4, 2) := by decide +kernel
theorem dX5_row_21 : decode cX5_row 21 = .ok (.iaload, 1) := by decide +kernel
theorem dX5_row_22 : decode cX5_row 22 = .ok (.ifCond .le 31, 3) := by decide +kernel
theorem dX5_row_25 : decode cX5_row 25 = .ok (.iload_n 3, 1) := by decide +kernel
theorem dX5_row_26 : decode cX5_row 26 = .ok (.iload_n 1, 1) := by decide +kernel
theorem dX5_row_27 : decode cX5_row 27 = .ok (.if_icmp .ne 23, 3) := by decide +kernel
theorem dX5_row_30 : decode cX5_row 30 = .ok (.iload_n 2, 1) := by decide +kernel
theorem dX5_row_31 : decode cX5_row 31 = .ok (.ifCond .eq 13, 3) := by decide +kernel
theorem dX5_row_34 : decode cX5_row 34 = .ok (.aload_n 0, 1) := by decide +kernel
theorem dX5_row_35 : decode cX5_row 35 = .ok (.getfield 11, 3) := by decide +kernel
theorem dX5_row_38 : decode cX5_row 38 = .ok (.iload 4, 2) := by decide +kernel
theorem dX5_row_40 : decode cX5_row 40 = .ok (.iaload, 1) := by decide +kernel
theorem dX5_row_41 : decode cX5_row 41 = .ok (.goto 8, 3) := by decide +kernel
theorem dX5_row_44 : decode cX5_row 44 = .ok (.iload 4, 2) := by decide +kernel
theorem dX5_row_46 : decode cX5_row 46 = .ok (.bipush (-9), 2) := by decide +kernel
theorem dX5_row_48 : decode cX5_row 48 = .ok (.iadd, 1) := by decide +kernel
theorem dX5_row_49 : decode cX5_row 49 = .ok (.ireturn, 1) := by decide +kernel
theorem dX5_row_50 : decode cX5_row 50 = .ok (.iinc 3 1, 3) := by decide +kernel
theorem dX5_row_53 : decode cX5_row 53 = .ok (.iinc 4 1, 3) := by decide +kernel
theorem dX5_row_56 : decode cX5_row 56 = .ok (.goto (-51), 3) := by decide +kernel
theorem dX5_row_59 : decode cX5_row 59 = .ok (.ldc 21, 2) := by decide +kernel
theorem dX5_row_61 : decode cX5_row 61 = .ok (.ireturn, 1) := by decide +kernel
theorem dX6_init_0 : decode cX6_init 0 = .ok (.aload_n 0, 1) := by decide +kernel
theorem dX6_init_1 : decode cX6_init 1 = .ok (.invokespecial 1, 3) := by decide +kernel
theorem dX6_init_4 : decode cX6_init 4 = .ok (.aload_n 0, 1) := by decide +kernel
theorem dX6_init_5 : decode cX6_init 5 = .ok (.bipush 60, 2) := by decide +kernel
theorem dX6_init_7 : decode cX6_init 7 = .ok (.newarray .int, 2) := by decide +kernel
theorem dX6_init_9 : decode cX6_init 9 = .ok (.putfield 9, 3) := by decide +kernel
theorem dX6_init_12 : decode cX6_init 12 = .ok (.return_, 1) := by decide +kernel
theorem dX6_append_0 : decode cX6_append 0 = .ok (.aload_n 0, 1) := by decide +kernel
theorem dX6_append_1 : decode cX6_append 1 = .ok (.getfield 13, 3) := by decide +kernel
theorem dX6_append_4 : decode cX6_append 4 = .ok (.bipush 60, 2) := by decide +kernel
theorem dX6_append_6 : decode cX6_append 6 = .ok (.if_icmp .lt 5, 3) := by decide +kernel
theorem dX6_append_9 : decode cX6_append 9 = .ok (.iconst 0, 1) := by decide +kernel
theorem dX6_append_10 : decode cX6_append 10 = .ok (.ireturn, 1) := by decide +kernel
theorem dX6_append_11 : decode cX6_append 11 = .ok (.aload_n 0, 1) := by decide +kernel
theorem dX6_append_12 : decode cX6_append 12 = .ok (.getfield 9, 3) := by decide +kernel
theorem dX6_append_15 : decode cX6_append 15 = .ok (.aload_n 0, 1) := by decide +kernel
theorem dX6_append_16 : decode cX6_append 16 = .ok (.getfield 13, 3) := by decide +kernel
theorem dX6_append_19 : decode cX6_append 19 = .ok (.iload_n 1, 1) := by decide +kernel
theorem dX6_append_20 : decode cX6_append 20 = .ok (.iastore, 1) := by decide +kernel
theorem dX6_append_21 : decode cX6_append 21 = .ok (.aload_n 0, 1) := by decide +kernel
theorem dX6_append_22 : decode cX6_append 22 = .ok (.dup, 1) := by decide +kernel
theorem dX6_append_23 : decode cX6_append 23 = .ok (.getfield 13, 3) := by decide +kernel
theorem dX6_append_26 : decode cX6_append 26 = .ok (.iconst 1, 1) := by decide +kernel
theorem dX6_append_27 : decode cX6_append 27 = .ok (.iadd, 1) := by decide +kernel
theorem dX6_append_28 : decode cX6_append 28 = .ok (.putfield 13, 3) := by decide +kernel
theorem dX6_append_31 : decode cX6_append 31 = .ok (.iconst 1, 1) := by decide +kernel
theorem dX6_append_32 : decode cX6_append 32 = .ok (.ireturn, 1) := by decide +kernel
theorem dX6_current_0 : decode cX6_current 0 = .ok (.aload_n 0, 1) := by decide +kernel
theorem dX6_current_1 : decode cX6_current 1 = .ok (.getfield 17, 3) := by decide +kernel
theorem dX6_current_4 : decode cX6_current 4 = .ok (.aload_n 0, 1) := by decide +kernel
theorem dX6_current_5 : decode cX6_current 5 = .ok (.getfield 13, 3) := by decide +kernel
theorem dX6_current_8 : decode cX6_current 8 = .ok (.if_icmp .ge 15, 3) := by decide +kernel
theorem dX6_current_11 : decode cX6_current 11 = .ok (.aload_n 0, 1) := by decide +kernel
theorem dX6_current_12 : decode cX6_current 12 = .ok (.getfield 9, 3) := by decide +kernel
theorem dX6_current_15 : decode cX6_current 15 = .ok (.aload_n 0, 1) := by decide +kernel
theorem dX6_current_16 : decode cX6_current 16 = .ok (.getfield 17, 3) := by decide +kernel
theorem dX6_current_19 : decode cX6_current 19 = .ok (.iaload, 1) := by decide +kernel
theorem dX6_current_20 : decode cX6_current 20 = .ok (.goto 4, 3) := by decide +kernel
theorem dX6_current_23 : decode cX6_current 23 = .ok (.iconst (-1), 1) := by decide +kernel
theorem dX6_current_24 : decode cX6_current 24 = .ok (.ireturn, 1) := by decide +kernel
theorem dX6_isAtEnd_0 : decode cX6_isAtEnd 0 = .ok (.aload_n 0, 1) := by decide +kernel
theorem dX6_isAtEnd_1 : decode cX6_isAtEnd 1 = .ok (.getfield 17, 3) := by decide +kernel
theorem dX6_isAtEnd_4 : decode cX6_isAtEnd 4 = .ok (.aload_n 0, 1) := by decide +kernel
theorem dX6_isAtEnd_5 : decode cX6_isAtEnd 5 = .ok (.getfield 13, 3) := by decide +kernel
theorem dX6_isAtEnd_8 : decode cX6_isAtEnd 8 = .ok (.if_icmp .lt 7, 3) := by decide +kernel
theorem dX6_isAtEnd_11 : decode cX6_isAtEnd 11 = .ok (.iconst 1, 1) := by decide +kernel
theorem dX6_isAtEnd_12 : decode cX6_isAtEnd 12 = .ok (.goto 4, 3) := by decide +kernel
theorem dX6_isAtEnd_15 : decode cX6_isAtEnd 15 = .ok (.iconst 0, 1) := by decide +kernel
theorem dX6_isAtEnd_16 : decode cX6_isAtEnd 16 = .ok (.ireturn, 1) := by decide +kernel
theorem dX6_readBoat_0 : decode cX6_readBoat 0 = .ok (.aload_n 0, 1) := by decide +kernel
theorem dX6_readBoat_1 : decode cX6_readBoat 1 = .ok (.aload_n 0, 1) := by decide +kernel
theorem dX6_readBoat_2 : decode cX6_readBoat 2 = .ok (.invokevirtual 20, 3) := by decide +kernel
theorem dX6_readBoat_5 : decode cX6_readBoat 5 = .ok (.putfield 24, 3) := by decide +kernel
theorem dX6_readBoat_8 : decode cX6_readBoat 8 = .ok (.aload_n 0, 1) := by decide +kernel
theorem dX6_readBoat_9 : decode cX6_readBoat 9 = .ok (.getfield 24, 3) := by decide +kernel
theorem dX6_readBoat_12 : decode cX6_readBoat 12 = .ok (.ifCond .eq 10, 3) := by decide +kernel
theorem dX6_readBoat_15 : decode cX6_readBoat 15 = .ok (.aload_n 0, 1) := by decide +kernel
theorem dX6_readBoat_16 : decode cX6_readBoat 16 = .ok (.invokevirtual 27, 3) := by decide +kernel
theorem dX6_readBoat_19 : decode cX6_readBoat 19 = .ok (.ifCond .ne 5, 3) := by decide +kernel
theorem dX6_readBoat_22 : decode cX6_readBoat 22 = .ok (.iconst 0, 1) := by decide +kernel
theorem dX6_readBoat_23 : decode cX6_readBoat 23 = .ok (.ireturn, 1) := by decide +kernel
theorem dX6_readBoat_24 : decode cX6_readBoat 24 = .ok (.aload_n 0, 1) := by decide +kernel
theorem dX6_readBoat_25 : decode cX6_readBoat 25 = .ok (.aload_n 0, 1) := by decide +kernel
theorem dX6_readBoat_26 : decode cX6_readBoat 26 = .ok (.bipush 9, 2) := by decide +kernel
theorem dX6_readBoat_28 : decode cX6_readBoat 28 = .ok (.invokevirtual 31, 3) := by decide +kernel
theorem dX6_readBoat_31 : decode cX6_readBoat 31 = .ok (.putfield 35, 3) := by decide +kernel
theorem dX6_readBoat_34 : decode cX6_readBoat 34 = .ok (.aload_n 0, 1) := by decide +kernel
theorem dX6_readBoat_35 : decode cX6_readBoat 35 = .ok (.aload_n 0, 1) := by decide +kernel
theorem dX6_readBoat_36 : decode cX6_readBoat 36 = .ok (.getfield 35, 3) := by decide +kernel
theorem dX6_readBoat_39 : decode cX6_readBoat 39 = .ok (.ifCond .ge 7, 3) := by decide +kernel
theorem dX6_readBoat_42 : decode cX6_readBoat 42 = .ok (.iconst (-1), 1) := by decide +kernel
theorem dX6_readBoat_43 : decode cX6_readBoat 43 = .ok (.goto 9, 3) := by decide +kernel
theorem dX6_readBoat_46 : decode cX6_readBoat 46 = .ok (.aload_n 0, 1) := by decide +kernel
theorem dX6_readBoat_47 : decode cX6_readBoat 47 = .ok (.bipush 9, 2) := by decide +kernel
theorem dX6_readBoat_49 : decode cX6_readBoat 49 = .ok (.invokevirtual 31, 3) := by decide +kernel
theorem dX6_readBoat_52 : decode cX6_readBoat 52 = .ok (.putfield 38, 3) := by decide +kernel
theorem dX6_readBoat_55 : decode cX6_readBoat 55 = .ok (.aload_n 0, 1) := by decide +kernel
theorem dX6_readBoat_56 : decode cX6_readBoat 56 = .ok (.aload_n 0, 1) := by decide +kernel
theorem dX6_readBoat_57 : decode cX6_readBoat 57 = .ok (.getfield 38, 3) := by decide +kernel
theorem dX6_readBoat_60 : decode cX6_readBoat 60 = .ok (.ifCond .ge 7, 3) := by decide +kernel
theorem dX6_readBoat_63 : decode cX6_readBoat 63 = .ok (.iconst (-1), 1) := by decide +kernel
theorem dX6_readBoat_64 : decode cX6_readBoat 64 = .ok (.goto 8, 3) := by decide +kernel
theorem dX6_readBoat_67 : decode cX6_readBoat 67 = .ok (.aload_n 0, 1) := by decide +kernel
theorem dX6_readBoat_68 : decode cX6_readBoat 68 = .ok (.iload_n 1, 1) := by decide +kernel
theorem dX6_readBoat_69 : decode cX6_readBoat 69 = .ok (.invokevirtual 31, 3) := by decide +kernel
theorem dX6_readBoat_72 : decode cX6_readBoat 72 = .ok (.putfield 41, 3) := by decide +kernel
theorem dX6_readBoat_75 : decode cX6_readBoat 75 = .ok (.aload_n 0, 1) := by decide +kernel
theorem dX6_readBoat_76 : decode cX6_readBoat 76 = .ok (.getfield 41, 3) := by decide +kernel
theorem dX6_readBoat_79 : decode cX6_readBoat 79 = .ok (.ifCond .lt 7, 3) := by decide +kernel
theorem dX6_readBoat_82 : decode cX6_readBoat 82 = .ok (.iconst 1, 1) := by decide +kernel
theorem dX6_readBoat_83 : decode cX6_readBoat 83 = .ok (.goto 4, 3) := by decide +kernel
theorem dX6_readBoat_86 : decode cX6_readBoat 86 = .ok (.iconst 0, 1) := by decide +kernel
theorem dX6_readBoat_87 : decode cX6_readBoat 87 = .ok (.ireturn, 1) := by decide +kernel
theorem dX6_readName_0 : decode cX6_readName 0 = .ok (.iconst 0, 1) := by decide +kernel
theorem dX6_readName_1 : decode cX6_readName 1 = .ok (.istore_n 1, 1) := by decide +kernel
theorem dX6_readName_2 : decode cX6_readName 2 = .ok (.iconst 0, 1) := by decide +kernel
theorem dX6_readName_3 : decode cX6_readName 3 = .ok (.istore_n 2, 1) := by decide +kernel
theorem dX6_readName_4 : decode cX6_readName 4 = .ok (.iload_n 2, 1) := by decide +kernel
theorem dX6_readName_5 : decode cX6_readName 5 = .ok (.iconst 4, 1) := by decide +kernel
theorem dX6_readName_6 : decode cX6_readName 6 = .ok (.if_icmp .ge 69, 3) := by decide +kernel
theorem dX6_readName_9 : decode cX6_readName 9 = .ok (.aload_n 0, 1) := by decide +kernel
theorem dX6_readName_10 : decode cX6_readName 10 = .ok (.invokevirtual 44, 3) := by decide +kernel
theorem dX6_readName_13 : decode cX6_readName 13 = .ok (.istore_n 3, 1) := by decide +kernel
theorem dX6_readName_14 : decode cX6_readName 14 = .ok (.iload_n 3, 1) := by decide +kernel
theorem dX6_readName_15 : decode cX6_readName 15 = .ok (.bipush 97, 2) := by decide +kernel
theorem dX6_readName_17 : decode cX6_readName 17 = .ok (.if_icmp .lt 13, 3) := by decide +kernel
theorem dX6_readName_20 : decode cX6_readName 20 = .ok (.iload_n 3, 1) := by decide +kernel
theorem dX6_readName_21 : decode cX6_readName 21 = .ok (.bipush 122, 2) := by decide +kernel
theorem dX6_readName_23 : decode cX6_readName 23 = .ok (.if_icmp .gt 7, 3) := by decide +kernel
theorem dX6_readName_26 : decode cX6_readName 26 = .ok (.iconst 1, 1) := by decide +kernel
theorem dX6_readName_27 : decode cX6_readName 27 = .ok (.goto 4, 3) := by decide +kernel
theorem dX6_readName_30 : decode cX6_readName 30 = .ok (.iconst 0, 1) := by decide +kernel
theorem dX6_readName_31 : decode cX6_readName 31 = .ok (.istore 4, 2) := by decide +kernel
theorem dX6_readName_33 : decode cX6_readName 33 = .ok (.iload_n 1, 1) := by decide +kernel
theorem dX6_readName_34 : decode cX6_readName 34 = .ok (.bipush 27, 2) := by decide +kernel
theorem dX6_readName_36 : decode cX6_readName 36 = .ok (.imul, 1) := by decide +kernel
theorem dX6_readName_37 : decode cX6_readName 37 = .ok (.iload 4, 2) := by decide +kernel
theorem dX6_readName_39 : decode cX6_readName 39 = .ok (.ifCond .eq 12, 3) := by decide +kernel
theorem dX6_readName_42 : decode cX6_readName 42 = .ok (.iload_n 3, 1) := by decide +kernel
theorem dX6_readName_43 : decode cX6_readName 43 = .ok (.bipush 97, 2) := by decide +kernel
theorem dX6_readName_45 : decode cX6_readName 45 = .ok (.isub, 1) := by decide +kernel
theorem dX6_readName_46 : decode cX6_readName 46 = .ok (.iconst 1, 1) := by decide +kernel
theorem dX6_readName_47 : decode cX6_readName 47 = .ok (.iadd, 1) := by decide +kernel
theorem dX6_readName_48 : decode cX6_readName 48 = .ok (.goto 4, 3) := by decide +kernel
theorem dX6_readName_51 : decode cX6_readName 51 = .ok (.iconst 0, 1) := by decide +kernel
theorem dX6_readName_52 : decode cX6_readName 52 = .ok (.iadd, 1) := by decide +kernel
theorem dX6_readName_53 : decode cX6_readName 53 = .ok (.istore_n 1, 1) := by decide +kernel
theorem dX6_readName_54 : decode cX6_readName 54 = .ok (.iload 4, 2) := by decide +kernel
theorem dX6_readName_56 : decode cX6_readName 56 = .ok (.ifCond .eq 13, 3) := by decide +kernel
theorem dX6_readName_59 : decode cX6_readName 59 = .ok (.aload_n 0, 1) := by decide +kernel
theorem dX6_readName_60 : decode cX6_readName 60 = .ok (.dup, 1) := by decide +kernel
theorem dX6_readName_61 : decode cX6_readName 61 = .ok (.getfield 17, 3) := by decide +kernel
theorem dX6_readName_64 : decode cX6_readName 64 = .ok (.iconst 1, 1) := by decide +kernel
theorem dX6_readName_65 : decode cX6_readName 65 = .ok (.iadd, 1) := by decide +kernel
theorem dX6_readName_66 : decode cX6_readName 66 = .ok (.putfield 17, 3) := by decide +kernel
theorem dX6_readName_69 : decode cX6_readName 69 = .ok (.iinc 2 1, 3) := by decide +kernel
theorem dX6_readName_72 : decode cX6_readName 72 = .ok (.goto (-68), 3) := by decide +kernel
theorem dX6_readName_75 : decode cX6_readName 75 = .ok (.iload_n 1, 1) := by decide +kernel
theorem dX6_readName_76 : decode cX6_readName 76 = .ok (.ireturn, 1) := by decide +kernel
theorem dX6_readWay_0 : decode cX6_readWay 0 = .ok (.aload_n 0, 1) := by decide +kernel
theorem dX6_readWay_1 : decode cX6_readWay 1 = .ok (.invokevirtual 44, 3) := by decide +kernel
theorem dX6_readWay_4 : decode cX6_readWay 4 = .ok (.istore_n 1, 1) := by decide +kernel
theorem dX6_readWay_5 : decode cX6_readWay 5 = .ok (.iload_n 1, 1) := by decide +kernel
theorem dX6_readWay_6 : decode cX6_readWay 6 = .ok (.bipush 43, 2) := by decide +kernel
theorem dX6_readWay_8 : decode cX6_readWay 8 = .ok (.if_icmp .eq 11, 3) := by decide +kernel
theorem dX6_readWay_11 : decode cX6_readWay 11 = .ok (.iload_n 1, 1) := by decide +kernel
theorem dX6_readWay_12 : decode cX6_readWay 12 = .ok (.bipush 45, 2) := by decide +kernel
theorem dX6_readWay_14 : decode cX6_readWay 14 = .ok (.if_icmp .eq 5, 3) := by decide +kernel
theorem dX6_readWay_17 : decode cX6_readWay 17 = .ok (.iconst 0, 1) := by decide +kernel
theorem dX6_readWay_18 : decode cX6_readWay 18 = .ok (.ireturn, 1) := by decide +kernel
theorem dX6_readWay_19 : decode cX6_readWay 19 = .ok (.aload_n 0, 1) := by decide +kernel
theorem dX6_readWay_20 : decode cX6_readWay 20 = .ok (.iload_n 1, 1) := by decide +kernel
theorem dX6_readWay_21 : decode cX6_readWay 21 = .ok (.bipush 43, 2) := by decide +kernel
theorem dX6_readWay_23 : decode cX6_readWay 23 = .ok (.if_icmp .ne 7, 3) := by decide +kernel
theorem dX6_readWay_26 : decode cX6_readWay 26 = .ok (.iconst 1, 1) := by decide +kernel
theorem dX6_readWay_27 : decode cX6_readWay 27 = .ok (.goto 4, 3) := by decide +kernel
theorem dX6_readWay_30 : decode cX6_readWay 30 = .ok (.iconst 0, 1) := by decide +kernel
theorem dX6_readWay_31 : decode cX6_readWay 31 = .ok (.putfield 47, 3) := by decide +kernel
theorem dX6_readWay_34 : decode cX6_readWay 34 = .ok (.aload_n 0, 1) := by decide +kernel
theorem dX6_readWay_35 : decode cX6_readWay 35 = .ok (.dup, 1) := by decide +kernel
theorem dX6_readWay_36 : decode cX6_readWay 36 = .ok (.getfield 17, 3) := by decide +kernel
theorem dX6_readWay_39 : decode cX6_readWay 39 = .ok (.iconst 1, 1) := by decide +kernel
theorem dX6_readWay_40 : decode cX6_readWay 40 = .ok (.iadd, 1) := by decide +kernel
theorem dX6_readWay_41 : decode cX6_readWay 41 = .ok (.putfield 17, 3) := by decide +kernel
theorem dX6_readWay_44 : decode cX6_readWay 44 = .ok (.iconst 1, 1) := by decide +kernel
theorem dX6_readWay_45 : decode cX6_readWay 45 = .ok (.ireturn, 1) := by decide +kernel
theorem dX6_readFigure_0 : decode cX6_readFigure 0 = .ok (.aload_n 0, 1) := by decide +kernel
theorem dX6_readFigure_1 : decode cX6_readFigure 1 = .ok (.invokevirtual 44, 3) := by decide +kernel
theorem dX6_readFigure_4 : decode cX6_readFigure 4 = .ok (.bipush 48, 2) := by decide +kernel
theorem dX6_readFigure_6 : decode cX6_readFigure 6 = .ok (.isub, 1) := by decide +kernel
theorem dX6_readFigure_7 : decode cX6_readFigure 7 = .ok (.istore_n 2, 1) := by decide +kernel
theorem dX6_readFigure_8 : decode cX6_readFigure 8 = .ok (.iload_n 2, 1) := by decide +kernel
theorem dX6_readFigure_9 : decode cX6_readFigure 9 = .ok (.ifCond .lt 8, 3) := by decide +kernel
theorem dX6_readFigure_12 : decode cX6_readFigure 12 = .ok (.iload_n 2, 1) := by decide +kernel
theorem dX6_readFigure_13 : decode cX6_readFigure 13 = .ok (.iload_n 1, 1) := by decide +kernel
theorem dX6_readFigure_14 : decode cX6_readFigure 14 = .ok (.if_icmp .le 5, 3) := by decide +kernel
theorem dX6_readFigure_17 : decode cX6_readFigure 17 = .ok (.iconst (-1), 1) := by decide +kernel
theorem dX6_readFigure_18 : decode cX6_readFigure 18 = .ok (.ireturn, 1) := by decide +kernel
theorem dX6_readFigure_19 : decode cX6_readFigure 19 = .ok (.aload_n 0, 1) := by decide +kernel
theorem dX6_readFigure_20 : decode cX6_readFigure 20 = .ok (.dup, 1) := by decide +kernel
theorem dX6_readFigure_21 : decode cX6_readFigure 21 = .ok (.getfield 17, 3) := by decide +kernel
theorem dX6_readFigure_24 : decode cX6_readFigure 24 = .ok (.iconst 1, 1) := by decide +kernel
theorem dX6_readFigure_25 : decode cX6_readFigure 25 = .ok (.iadd, 1) := by decide +kernel
theorem dX6_readFigure_26 : decode cX6_readFigure 26 = .ok (.putfield 17, 3) := by decide +kernel
theorem dX6_readFigure_29 : decode cX6_readFigure 29 = .ok (.iload_n 2, 1) := by decide +kernel
theorem dX6_readFigure_30 : decode cX6_readFigure 30 = .ok (.ireturn, 1) := by decide +kernel
theorem dX6_readComma_0 : decode cX6_readComma 0 = .ok (.aload_n 0, 1) := by decide +kernel
theorem dX6_readComma_1 : decode cX6_readComma 1 = .ok (.invokevirtual 44, 3) := by decide +kernel
theorem dX6_readComma_4 : decode cX6_readComma 4 = .ok (.bipush 44, 2) := by decide +kernel
theorem dX6_readComma_6 : decode cX6_readComma 6 = .ok (.if_icmp .eq 5, 3) := by decide +kernel
theorem dX6_readComma_9 : decode cX6_readComma 9 = .ok (.iconst 0, 1) := by decide +kernel
theorem dX6_readComma_10 : decode cX6_readComma 10 = .ok (.ireturn, 1) := by decide +kernel
theorem dX6_readComma_11 : decode cX6_readComma 11 = .ok (.aload_n 0, 1) := by decide +kernel
theorem dX6_readComma_12 : decode cX6_readComma 12 = .ok (.dup, 1) := by decide +kernel
theorem dX6_readComma_13 : decode cX6_readComma 13 = .ok (.getfield 17, 3) := by decide +kernel
theorem dX6_readComma_16 : decode cX6_readComma 16 = .ok (.iconst 1, 1) := by decide +kernel
theorem dX6_readComma_17 : decode cX6_readComma 17 = .ok (.iadd, 1) := by decide +kernel
theorem dX6_readComma_18 : decode cX6_readComma 18 = .ok (.putfield 17, 3) := by decide +kernel
theorem dX6_readComma_21 : decode cX6_readComma 21 = .ok (.iconst 1, 1) := by decide +kernel
theorem dX6_readComma_22 : decode cX6_readComma 22 = .ok (.ireturn, 1) := by decide +kernel
theorem dX7_init_0 : decode cX7_init 0 = .ok (.aload_n 0, 1) := by decide +kernel
theorem dX7_init_1 : decode cX7_init 1 = .ok (.invokespecial 3, 3) := by decide +kernel
theorem dX7_init_4 : decode cX7_init 4 = .ok (.return_, 1) := by decide +kernel
theorem dX7_begin_0 : decode cX7_begin 0 = .ok (.aload_n 0, 1) := by decide +kernel
theorem dX7_begin_1 : decode cX7_begin 1 = .ok (.aload_n 2, 1) := by decide +kernel
theorem dX7_begin_2 : decode cX7_begin 2 = .ok (.getfield 9, 3) := by decide +kernel
theorem dX7_begin_5 : decode cX7_begin 5 = .ok (.bipush 6, 2) := by decide +kernel
theorem dX7_begin_7 : decode cX7_begin 7 = .ok (.invokestatic 17, 3) := by decide +kernel
theorem dX7_begin_10 : decode cX7_begin 10 = .ok (.putfield 23, 3) := by decide +kernel
theorem dX7_begin_13 : decode cX7_begin 13 = .ok (.aload_n 0, 1) := by decide +kernel
theorem dX7_begin_14 : decode cX7_begin 14 = .ok (.aload_n 0, 1) := by decide +kernel
theorem dX7_begin_15 : decode cX7_begin 15 = .ok (.getfield 23, 3) := by decide +kernel
theorem dX7_begin_18 : decode cX7_begin 18 = .ok (.aload_n 1, 1) := by decide +kernel
theorem dX7_begin_19 : decode cX7_begin 19 = .ok (.getfield 9, 3) := by decide +kernel
theorem dX7_begin_22 : decode cX7_begin 22 = .ok (.bipush 6, 2) := by decide +kernel
theorem dX7_begin_24 : decode cX7_begin 24 = .ok (.invokestatic 17, 3) := by decide +kernel
theorem dX7_begin_27 : decode cX7_begin 27 = .ok (.iadd, 1) := by decide +kernel
theorem dX7_begin_28 : decode cX7_begin 28 = .ok (.putfield 26, 3) := by decide +kernel
theorem dX7_begin_31 : decode cX7_begin 31 = .ok (.aload_n 0, 1) := by decide +kernel
theorem dX7_begin_32 : decode cX7_begin 32 = .ok (.iconst 0, 1) := by decide +kernel
theorem dX7_begin_33 : decode cX7_begin 33 = .ok (.putfield 29, 3) := by decide +kernel
theorem dX7_begin_36 : decode cX7_begin 36 = .ok (.aload_n 0, 1) := by decide +kernel
theorem dX7_begin_37 : decode cX7_begin 37 = .ok (.iconst 0, 1) := by decide +kernel
theorem dX7_begin_38 : decode cX7_begin 38 = .ok (.putfield 32, 3) := by decide +kernel
theorem dX7_begin_41 : decode cX7_begin 41 = .ok (.aload_n 0, 1) := by decide +kernel
theorem dX7_begin_42 : decode cX7_begin 42 = .ok (.iconst 0, 1) := by decide +kernel
theorem dX7_begin_43 : decode cX7_begin 43 = .ok (.putfield 35, 3) := by decide +kernel
theorem dX7_begin_46 : decode cX7_begin 46 = .ok (.return_, 1) := by decide +kernel
theorem dX7_isOrder_0 : decode cX7_isOrder 0 = .ok (.iload_n 1, 1) := by decide +kernel
theorem dX7_isOrder_1 : decode cX7_isOrder 1 = .ok (.invokestatic 38, 3) := by decide +kernel
theorem dX7_isOrder_4 : decode cX7_isOrder 4 = .ok (.aload_n 0, 1) := by decide +kernel
theorem dX7_isOrder_5 : decode cX7_isOrder 5 = .ok (.getfield 23, 3) := by decide +kernel
theorem dX7_isOrder_8 : decode cX7_isOrder 8 = .ok (.if_icmp .ne 7, 3) := by decide +kernel
theorem dX7_isOrder_11 : decode cX7_isOrder 11 = .ok (.iconst 1, 1) := by decide +kernel
theorem dX7_isOrder_12 : decode cX7_isOrder 12 = .ok (.goto 4, 3) := by decide +kernel
theorem dX7_isOrder_15 : decode cX7_isOrder 15 = .ok (.iconst 0, 1) := by decide +kernel
theorem dX7_isOrder_16 : decode cX7_isOrder 16 = .ok (.ireturn, 1) := by decide +kernel
theorem dX7_isFromBelow_0 : decode cX7_isFromBelow 0 = .ok (.iload_n 1, 1) := by decide +kernel
theorem dX7_isFromBelow_1 : decode cX7_isFromBelow 1 = .ok (.aload_n 0, 1) := by decide +kernel
theorem dX7_isFromBelow_2 : decode cX7_isFromBelow 2 = .ok (.getfield 26, 3) := by decide +kernel
theorem dX7_isFromBelow_5 : decode cX7_isFromBelow 5 = .ok (.iconst 1, 1) := by decide +kernel
theorem dX7_isFromBelow_6 : decode cX7_isFromBelow 6 = .ok (.isub, 1) := by decide +kernel
theorem dX7_isFromBelow_7 : decode cX7_isFromBelow 7 = .ok (.iload_n 2, 1) := by decide +kernel
theorem dX7_isFromBelow_8 : decode cX7_isFromBelow 8 = .ok (.isub, 1) := by decide +kernel
theorem dX7_isFromBelow_9 : decode cX7_isFromBelow 9 = .ok (.ishr, 1) := by decide +kernel
theorem dX7_isFromBelow_10 : decode cX7_isFromBelow 10 = .ok (.iconst 1, 1) := by decide +kernel
theorem dX7_isFromBelow_11 : decode cX7_isFromBelow 11 = .ok (.iand, 1) := by decide +kernel
theorem dX7_isFromBelow_12 : decode cX7_isFromBelow 12 = .ok (.ifCond .ne 7, 3) := by decide +kernel
theorem dX7_isFromBelow_15 : decode cX7_isFromBelow 15 = .ok (.iconst 1, 1) := by decide +kernel
theorem dX7_isFromBelow_16 : decode cX7_isFromBelow 16 = .ok (.goto 4, 3) := by decide +kernel
theorem dX7_isFromBelow_19 : decode cX7_isFromBelow 19 = .ok (.iconst 0, 1) := by decide +kernel
theorem dX7_isFromBelow_20 : decode cX7_isFromBelow 20 = .ok (.ireturn, 1) := by decide +kernel
theorem dX7_weigh_0 : decode cX7_weigh 0 = .ok (.iload_n 2, 1) := by decide +kernel
theorem dX7_weigh_1 : decode cX7_weigh 1 = .ok (.ldc 44, 2) := by decide +kernel
theorem dX7_weigh_3 : decode cX7_weigh 3 = .ok (.if_icmp .ne 4, 3) := by decide +kernel
theorem dX7_weigh_6 : decode cX7_weigh 6 = .ok (.return_, 1) := by decide +kernel
theorem dX7_weigh_7 : decode cX7_weigh 7 = .ok (.aload_n 0, 1) := by decide +kernel
theorem dX7_weigh_8 : decode cX7_weigh 8 = .ok (.getfield 29, 3) := by decide +kernel
theorem dX7_weigh_11 : decode cX7_weigh 11 = .ok (.ifCond .eq 11, 3) := by decide +kernel
theorem dX7_weigh_14 : decode cX7_weigh 14 = .ok (.iload_n 2, 1) := by decide +kernel
theorem dX7_weigh_15 : decode cX7_weigh 15 = .ok (.aload_n 0, 1) := by decide +kernel
theorem dX7_weigh_16 : decode cX7_weigh 16 = .ok (.getfield 32, 3) := by decide +kernel
theorem dX7_weigh_19 : decode cX7_weigh 19 = .ok (.if_icmp .ge 13, 3) := by decide +kernel
theorem dX7_weigh_22 : decode cX7_weigh 22 = .ok (.aload_n 0, 1) := by decide +kernel
theorem dX7_weigh_23 : decode cX7_weigh 23 = .ok (.iload_n 2, 1) := by decide +kernel
theorem dX7_weigh_24 : decode cX7_weigh 24 = .ok (.putfield 32, 3) := by decide +kernel
theorem dX7_weigh_27 : decode cX7_weigh 27 = .ok (.aload_n 0, 1) := by decide +kernel
theorem dX7_weigh_28 : decode cX7_weigh 28 = .ok (.iload_n 1, 1) := by decide +kernel
theorem dX7_weigh_29 : decode cX7_weigh 29 = .ok (.putfield 35, 3) := by decide +kernel
theorem dX7_weigh_32 : decode cX7_weigh 32 = .ok (.aload_n 0, 1) := by decide +kernel
theorem dX7_weigh_33 : decode cX7_weigh 33 = .ok (.dup, 1) := by decide +kernel
theorem dX7_weigh_34 : decode cX7_weigh 34 = .ok (.getfield 29, 3) := by decide +kernel
theorem dX7_weigh_37 : decode cX7_weigh 37 = .ok (.iconst 1, 1) := by decide +kernel
theorem dX7_weigh_38 : decode cX7_weigh 38 = .ok (.iadd, 1) := by decide +kernel
theorem dX7_weigh_39 : decode cX7_weigh 39 = .ok (.putfield 29, 3) := by decide +kernel
theorem dX7_weigh_42 : decode cX7_weigh 42 = .ok (.return_, 1) := by decide +kernel
theorem dX8_init_0 : decode cX8_init 0 = .ok (.aload_n 0, 1) := by decide +kernel
theorem dX8_init_1 : decode cX8_init 1 = .ok (.invokespecial 5, 3) := by decide +kernel
theorem dX8_init_4 : decode cX8_init 4 = .ok (.aload_n 0, 1) := by decide +kernel
theorem dX8_init_5 : decode cX8_init 5 = .ok (.new 11, 3) := by decide +kernel
theorem dX8_init_8 : decode cX8_init 8 = .ok (.dup, 1) := by decide +kernel
theorem dX8_init_9 : decode cX8_init 9 = .ok (.invokespecial 13, 3) := by decide +kernel
theorem dX8_init_12 : decode cX8_init 12 = .ok (.putfield 14, 3) := by decide +kernel
theorem dX8_init_15 : decode cX8_init 15 = .ok (.aload_n 0, 1) := by decide +kernel
theorem dX8_init_16 : decode cX8_init 16 = .ok (.new 18, 3) := by decide +kernel
theorem dX8_init_19 : decode cX8_init 19 = .ok (.dup, 1) := by decide +kernel
theorem dX8_init_20 : decode cX8_init 20 = .ok (.invokespecial 20, 3) := by decide +kernel
theorem dX8_init_23 : decode cX8_init 23 = .ok (.putfield 21, 3) := by decide +kernel
theorem dX8_init_26 : decode cX8_init 26 = .ok (.aload_n 0, 1) := by decide +kernel
theorem dX8_init_27 : decode cX8_init 27 = .ok (.new 25, 3) := by decide +kernel
theorem dX8_init_30 : decode cX8_init 30 = .ok (.dup, 1) := by decide +kernel
theorem dX8_init_31 : decode cX8_init 31 = .ok (.invokespecial 27, 3) := by decide +kernel
theorem dX8_init_34 : decode cX8_init 34 = .ok (.putfield 28, 3) := by decide +kernel
theorem dX8_init_37 : decode cX8_init 37 = .ok (.aload_n 0, 1) := by decide +kernel
theorem dX8_init_38 : decode cX8_init 38 = .ok (.new 11, 3) := by decide +kernel
theorem dX8_init_41 : decode cX8_init 41 = .ok (.dup, 1) := by decide +kernel
theorem dX8_init_42 : decode cX8_init 42 = .ok (.invokespecial 13, 3) := by decide +kernel
theorem dX8_init_45 : decode cX8_init 45 = .ok (.putfield 32, 3) := by decide +kernel
theorem dX8_init_48 : decode cX8_init 48 = .ok (.aload_n 0, 1) := by decide +kernel
theorem dX8_init_49 : decode cX8_init 49 = .ok (.new 18, 3) := by decide +kernel
theorem dX8_init_52 : decode cX8_init 52 = .ok (.dup, 1) := by decide +kernel
theorem dX8_init_53 : decode cX8_init 53 = .ok (.invokespecial 20, 3) := by decide +kernel
theorem dX8_init_56 : decode cX8_init 56 = .ok (.putfield 35, 3) := by decide +kernel
theorem dX8_init_59 : decode cX8_init 59 = .ok (.aload_n 0, 1) := by decide +kernel
theorem dX8_init_60 : decode cX8_init 60 = .ok (.new 11, 3) := by decide +kernel
theorem dX8_init_63 : decode cX8_init 63 = .ok (.dup, 1) := by decide +kernel
theorem dX8_init_64 : decode cX8_init 64 = .ok (.invokespecial 13, 3) := by decide +kernel
theorem dX8_init_67 : decode cX8_init 67 = .ok (.putfield 38, 3) := by decide +kernel
theorem dX8_init_70 : decode cX8_init 70 = .ok (.aload_n 0, 1) := by decide +kernel
theorem dX8_init_71 : decode cX8_init 71 = .ok (.new 18, 3) := by decide +kernel
theorem dX8_init_74 : decode cX8_init 74 = .ok (.dup, 1) := by decide +kernel
theorem dX8_init_75 : decode cX8_init 75 = .ok (.invokespecial 20, 3) := by decide +kernel
theorem dX8_init_78 : decode cX8_init 78 = .ok (.putfield 41, 3) := by decide +kernel
theorem dX8_init_81 : decode cX8_init 81 = .ok (.aload_n 0, 1) := by decide +kernel
theorem dX8_init_82 : decode cX8_init 82 = .ok (.new 44, 3) := by decide +kernel
theorem dX8_init_85 : decode cX8_init 85 = .ok (.dup, 1) := by decide +kernel
theorem dX8_init_86 : decode cX8_init 86 = .ok (.invokespecial 46, 3) := by decide +kernel
theorem dX8_init_89 : decode cX8_init 89 = .ok (.putfield 47, 3) := by decide +kernel
theorem dX8_init_92 : decode cX8_init 92 = .ok (.aload_n 0, 1) := by decide +kernel
theorem dX8_init_93 : decode cX8_init 93 = .ok (.new 44, 3) := by decide +kernel
theorem dX8_init_96 : decode cX8_init 96 = .ok (.dup, 1) := by decide +kernel
theorem dX8_init_97 : decode cX8_init 97 = .ok (.invokespecial 46, 3) := by decide +kernel
theorem dX8_init_100 : decode cX8_init 100 = .ok (.putfield 51, 3) := by decide +kernel
theorem dX8_init_103 : decode cX8_init 103 = .ok (.aload_n 0, 1) := by decide +kernel
theorem dX8_init_104 : decode cX8_init 104 = .ok (.new 54, 3) := by decide +kernel
theorem dX8_init_107 : decode cX8_init 107 = .ok (.dup, 1) := by decide +kernel
theorem dX8_init_108 : decode cX8_init 108 = .ok (.invokespecial 56, 3) := by decide +kernel
theorem dX8_init_111 : decode cX8_init 111 = .ok (.putfield 57, 3) := by decide +kernel
theorem dX8_init_114 : decode cX8_init 114 = .ok (.aload_n 0, 1) := by decide +kernel
theorem dX8_init_115 : decode cX8_init 115 = .ok (.new 61, 3) := by decide +kernel
theorem dX8_init_118 : decode cX8_init 118 = .ok (.dup, 1) := by decide +kernel
theorem dX8_init_119 : decode cX8_init 119 = .ok (.invokespecial 63, 3) := by decide +kernel
theorem dX8_init_122 : decode cX8_init 122 = .ok (.putfield 64, 3) := by decide +kernel
theorem dX8_init_125 : decode cX8_init 125 = .ok (.aload_n 0, 1) := by decide +kernel
theorem dX8_init_126 : decode cX8_init 126 = .ok (.getfield 14, 3) := by decide +kernel
theorem dX8_init_129 : decode cX8_init 129 = .ok (.iconst 2, 1) := by decide +kernel
theorem dX8_init_130 : decode cX8_init 130 = .ok (.invokevirtual 68, 3) := by decide +kernel
theorem dX8_init_133 : decode cX8_init 133 = .ok (.return_, 1) := by decide +kernel
theorem dX8_locks_0 : decode cX8_locks 0 = .ok (.iload_n 1, 1) := by decide +kernel
theorem dX8_locks_1 : decode cX8_locks 1 = .ok (.iconst 1, 1) := by decide +kernel
theorem dX8_locks_2 : decode cX8_locks 2 = .ok (.if_icmp .lt 9, 3) := by decide +kernel
theorem dX8_locks_5 : decode cX8_locks 5 = .ok (.iload_n 1, 1) := by decide +kernel
theorem dX8_locks_6 : decode cX8_locks 6 = .ok (.bipush 6, 2) := by decide +kernel
theorem dX8_locks_8 : decode cX8_locks 8 = .ok (.if_icmp .le 5, 3) := by decide +kernel
theorem dX8_locks_11 : decode cX8_locks 11 = .ok (.iconst (-1), 1) := by decide +kernel
theorem dX8_locks_12 : decode cX8_locks 12 = .ok (.ireturn, 1) := by decide +kernel
theorem dX8_locks_13 : decode cX8_locks 13 = .ok (.aload_n 0, 1) := by decide +kernel
theorem dX8_locks_14 : decode cX8_locks 14 = .ok (.getfield 14, 3) := by decide +kernel
theorem dX8_locks_17 : decode cX8_locks 17 = .ok (.getfield 72, 3) := by decide +kernel
theorem dX8_locks_20 : decode cX8_locks 20 = .ok (.istore_n 2, 1) := by decide +kernel
theorem dX8_locks_21 : decode cX8_locks 21 = .ok (.aload_n 0, 1) := by decide +kernel
theorem dX8_locks_22 : decode cX8_locks 22 = .ok (.getfield 14, 3) := by decide +kernel
theorem dX8_locks_25 : decode cX8_locks 25 = .ok (.iload_n 1, 1) := by decide +kernel
theorem dX8_locks_26 : decode cX8_locks 26 = .ok (.invokevirtual 68, 3) := by decide +kernel
theorem dX8_locks_29 : decode cX8_locks 29 = .ok (.aload_n 0, 1) := by decide +kernel
theorem dX8_locks_30 : decode cX8_locks 30 = .ok (.getfield 21, 3) := by decide +kernel
theorem dX8_locks_33 : decode cX8_locks 33 = .ok (.iconst 0, 1) := by decide +kernel
theorem dX8_locks_34 : decode cX8_locks 34 = .ok (.putfield 76, 3) := by decide +kernel
theorem dX8_locks_37 : decode cX8_locks 37 = .ok (.iload_n 2, 1) := by decide +kernel
theorem dX8_locks_38 : decode cX8_locks 38 = .ok (.ireturn, 1) := by decide +kernel
theorem dX8_lock_0 : decode cX8_lock 0 = .ok (.aload_n 0, 1) := by decide +kernel
theorem dX8_lock_1 : decode cX8_lock 1 = .ok (.getfield 14, 3) := by decide +kernel
theorem dX8_lock_4 : decode cX8_lock 4 = .ok (.iload_n 1, 1) := by decide +kernel
theorem dX8_lock_5 : decode cX8_lock 5 = .ok (.invokevirtual 79, 3) := by decide +kernel
theorem dX8_lock_8 : decode cX8_lock 8 = .ok (.ifCond .eq 11, 3) := by decide +kernel
theorem dX8_lock_11 : decode cX8_lock 11 = .ok (.iload_n 2, 1) := by decide +kernel
theorem dX8_lock_12 : decode cX8_lock 12 = .ok (.iload_n 3, 1) := by decide +kernel
theorem dX8_lock_13 : decode cX8_lock 13 = .ok (.invokestatic 83, 3) := by decide +kernel
theorem dX8_lock_16 : decode cX8_lock 16 = .ok (.ifCond .ne 5, 3) := by decide +kernel
theorem dX8_lock_19 : decode cX8_lock 19 = .ok (.iconst (-1), 1) := by decide +kernel
theorem dX8_lock_20 : decode cX8_lock 20 = .ok (.ireturn, 1) := by decide +kernel
theorem dX8_lock_21 : decode cX8_lock 21 = .ok (.aload_n 0, 1) := by decide +kernel
theorem dX8_lock_22 : decode cX8_lock 22 = .ok (.getfield 14, 3) := by decide +kernel
theorem dX8_lock_25 : decode cX8_lock 25 = .ok (.iload_n 1, 1) := by decide +kernel
theorem dX8_lock_26 : decode cX8_lock 26 = .ok (.invokevirtual 87, 3) := by decide +kernel
theorem dX8_lock_29 : decode cX8_lock 29 = .ok (.ifCond .ne 6, 3) := by decide +kernel
theorem dX8_lock_32 : decode cX8_lock 32 = .ok (.bipush (-5), 2) := by decide +kernel
theorem dX8_lock_34 : decode cX8_lock 34 = .ok (.ireturn, 1) := by decide +kernel
theorem dX8_lock_35 : decode cX8_lock 35 = .ok (.aload_n 0, 1) := by decide +kernel
theorem dX8_lock_36 : decode cX8_lock 36 = .ok (.getfield 14, 3) := by decide +kernel
theorem dX8_lock_39 : decode cX8_lock 39 = .ok (.iload_n 1, 1) := by decide +kernel
theorem dX8_lock_40 : decode cX8_lock 40 = .ok (.iload_n 2, 1) := by decide +kernel
theorem dX8_lock_41 : decode cX8_lock 41 = .ok (.invokevirtual 90, 3) := by decide +kernel
theorem dX8_lock_44 : decode cX8_lock 44 = .ok (.istore 4, 2) := by decide +kernel
theorem dX8_lock_46 : decode cX8_lock 46 = .ok (.iload_n 2, 1) := by decide +kernel
theorem dX8_lock_47 : decode cX8_lock 47 = .ok (.ifCond .ne 16, 3) := by decide +kernel
theorem dX8_lock_50 : decode cX8_lock 50 = .ok (.aload_n 0, 1) := by decide +kernel
theorem dX8_lock_51 : decode cX8_lock 51 = .ok (.getfield 14, 3) := by decide +kernel
theorem dX8_lock_54 : decode cX8_lock 54 = .ok (.getfield 94, 3) := by decide +kernel
theorem dX8_lock_57 : decode cX8_lock 57 = .ok (.iload_n 1, 1) := by decide +kernel
theorem dX8_lock_58 : decode cX8_lock 58 = .ok (.iload_n 3, 1) := by decide +kernel
theorem dX8_lock_59 : decode cX8_lock 59 = .ok (.iastore, 1) := by decide +kernel
theorem dX8_lock_60 : decode cX8_lock 60 = .ok (.goto 13, 3) := by decide +kernel
theorem dX8_lock_63 : decode cX8_lock 63 = .ok (.aload_n 0, 1) := by decide +kernel
theorem dX8_lock_64 : decode cX8_lock 64 = .ok (.getfield 14, 3) := by decide +kernel
theorem dX8_lock_67 : decode cX8_lock 67 = .ok (.getfield 98, 3) := by decide +kernel
theorem dX8_lock_70 : decode cX8_lock 70 = .ok (.iload_n 1, 1) := by decide +kernel
theorem dX8_lock_71 : decode cX8_lock 71 = .ok (.iload_n 3, 1) := by decide +kernel
theorem dX8_lock_72 : decode cX8_lock 72 = .ok (.iastore, 1) := by decide +kernel
theorem dX8_lock_73 : decode cX8_lock 73 = .ok (.iload 4, 2) := by decide +kernel
theorem dX8_lock_75 : decode cX8_lock 75 = .ok (.ireturn, 1) := by decide +kernel
theorem dX8_isLockSetting_0 : decode cX8_isLockSetting 0 = .ok (.iload_n 0, 1) := by decide +kernel
theorem dX8_isLockSetting_1 : decode cX8_isLockSetting 1 = .ok (.lookupswitch 59 #[(0, 27), (1, 44)], 27) := by decide +kernel
theorem dX8_isLockSetting_28 : decode cX8_isLockSetting 28 = .ok (.iload_n 1, 1) := by decide +kernel
theorem dX8_isLockSetting_29 : decode cX8_isLockSetting 29 = .ok (.iconst 1, 1) := by decide +kernel
theorem dX8_isLockSetting_30 : decode cX8_isLockSetting 30 = .ok (.if_icmp .lt 13, 3) := by decide +kernel
theorem dX8_isLockSetting_33 : decode cX8_isLockSetting 33 = .ok (.iload_n 1, 1) := by decide +kernel
theorem dX8_isLockSetting_34 : decode cX8_isLockSetting 34 = .ok (.bipush 99, 2) := by decide +kernel
theorem dX8_isLockSetting_36 : decode cX8_isLockSetting 36 = .ok (.if_icmp .gt 7, 3) := by decide +kernel
theorem dX8_isLockSetting_39 : decode cX8_isLockSetting 39 = .ok (.iconst 1, 1) := by decide +kernel
theorem dX8_isLockSetting_40 : decode cX8_isLockSetting 40 = .ok (.goto 4, 3) := by decide +kernel
theorem dX8_isLockSetting_43 : decode cX8_isLockSetting 43 = .ok (.iconst 0, 1) := by decide +kernel
theorem dX8_isLockSetting_44 : decode cX8_isLockSetting 44 = .ok (.ireturn, 1) := by decide +kernel
theorem dX8_isLockSetting_45 : decode cX8_isLockSetting 45 = .ok (.iload_n 1, 1) := by decide +kernel
theorem dX8_isLockSetting_46 : decode cX8_isLockSetting 46 = .ok (.ifCond .lt 12, 3) := by decide +kernel
theorem dX8_isLockSetting_49 : decode cX8_isLockSetting 49 = .ok (.iload_n 1, 1) := by decide +kernel
theorem dX8_isLockSetting_50 : decode cX8_isLockSetting 50 = .ok (.iconst 3, 1) := by decide +kernel
theorem dX8_isLockSetting_51 : decode cX8_isLockSetting 51 = .ok (.if_icmp .gt 7, 3) := by decide +kernel
theorem dX8_isLockSetting_54 : decode cX8_isLockSetting 54 = .ok (.iconst 1, 1) := by decide +kernel
theorem dX8_isLockSetting_55 : decode cX8_isLockSetting 55 = .ok (.goto 4, 3) := by decide +kernel
theorem dX8_isLockSetting_58 : decode cX8_isLockSetting 58 = .ok (.iconst 0, 1) := by decide +kernel
theorem dX8_isLockSetting_59 : decode cX8_isLockSetting 59 = .ok (.ireturn, 1) := by decide +kernel
theorem dX8_isLockSetting_60 : decode cX8_isLockSetting 60 = .ok (.iconst 0, 1) := by decide +kernel
theorem dX8_isLockSetting_61 : decode cX8_isLockSetting 61 = .ok (.ireturn, 1) := by decide +kernel
theorem dX8_ofLock_0 : decode cX8_ofLock 0 = .ok (.aload_n 0, 1) := by decide +kernel
theorem dX8_ofLock_1 : decode cX8_ofLock 1 = .ok (.getfield 14, 3) := by decide +kernel
theorem dX8_ofLock_4 : decode cX8_ofLock 4 = .ok (.iload_n 1, 1) := by decide +kernel
theorem dX8_ofLock_5 : decode cX8_ofLock 5 = .ok (.invokevirtual 79, 3) := by decide +kernel
theorem dX8_ofLock_8 : decode cX8_ofLock 8 = .ok (.ifCond .eq 12, 3) := by decide +kernel
theorem dX8_ofLock_11 : decode cX8_ofLock 11 = .ok (.iload_n 2, 1) := by decide +kernel
theorem dX8_ofLock_12 : decode cX8_ofLock 12 = .ok (.ifCond .lt 8, 3) := by decide +kernel
theorem dX8_ofLock_15 : decode cX8_ofLock 15 = .ok (.iload_n 2, 1) := by decide +kernel
theorem dX8_ofLock_16 : decode cX8_ofLock 16 = .ok (.iconst 4, 1) := by decide +kernel
theorem dX8_ofLock_17 : decode cX8_ofLock 17 = .ok (.if_icmp .le 5, 3) := by decide +kernel
theorem dX8_ofLock_20 : decode cX8_ofLock 20 = .ok (.iconst (-1), 1) := by decide +kernel
theorem dX8_ofLock_21 : decode cX8_ofLock 21 = .ok (.ireturn, 1) := by decide +kernel
theorem dX8_ofLock_22 : decode cX8_ofLock 22 = .ok (.aload_n 0, 1) := by decide +kernel
theorem dX8_ofLock_23 : decode cX8_ofLock 23 = .ok (.getfield 14, 3) := by decide +kernel
theorem dX8_ofLock_26 : decode cX8_ofLock 26 = .ok (.iload_n 1, 1) := by decide +kernel
theorem dX8_ofLock_27 : decode cX8_ofLock 27 = .ok (.iload_n 2, 1) := by decide +kernel
theorem dX8_ofLock_28 : decode cX8_ofLock 28 = .ok (.invokevirtual 90, 3) := by decide +kernel
theorem dX8_ofLock_31 : decode cX8_ofLock 31 = .ok (.ireturn, 1) := by decide +kernel
theorem dX8_reach_0 : decode cX8_reach 0 = .ok (.aload_n 0, 1) := by decide +kernel
theorem dX8_reach_1 : decode cX8_reach 1 = .ok (.getfield 14, 3) := by decide +kernel
theorem dX8_reach_4 : decode cX8_reach 4 = .ok (.iload_n 1, 1) := by decide +kernel
theorem dX8_reach_5 : decode cX8_reach 5 = .ok (.invokevirtual 101, 3) := by decide +kernel
theorem dX8_reach_8 : decode cX8_reach 8 = .ok (.ifCond .eq 11, 3) := by decide +kernel
theorem dX8_reach_11 : decode cX8_reach 11 = .ok (.iload_n 2, 1) := by decide +kernel
theorem dX8_reach_12 : decode cX8_reach 12 = .ok (.iload_n 3, 1) := by decide +kernel
theorem dX8_reach_13 : decode cX8_reach 13 = .ok (.invokestatic 104, 3) := by decide +kernel
theorem dX8_reach_16 : decode cX8_reach 16 = .ok (.ifCond .ne 5, 3) := by decide +kernel
theorem dX8_reach_19 : decode cX8_reach 19 = .ok (.iconst (-1), 1) := by decide +kernel
theorem dX8_reach_20 : decode cX8_reach 20 = .ok (.ireturn, 1) := by decide +kernel
theorem dX8_reach_21 : decode cX8_reach 21 = .ok (.iload_n 2, 1) := by decide +kernel
theorem dX8_reach_22 : decode cX8_reach 22 = .ok (.ifCond .ne 7, 3) := by decide +kernel
theorem dX8_reach_25 : decode cX8_reach 25 = .ok (.iload_n 3, 1) := by decide +kernel
theorem dX8_reach_26 : decode cX8_reach 26 = .ok (.goto 12, 3) := by decide +kernel
theorem dX8_reach_29 : decode cX8_reach 29 = .ok (.aload_n 0, 1) := by decide +kernel
theorem dX8_reach_30 : decode cX8_reach 30 = .ok (.getfield 14, 3) := by decide +kernel
theorem dX8_reach_33 : decode cX8_reach 33 = .ok (.getfield 107, 3) := by decide +kernel
theorem dX8_reach_36 : decode cX8_reach 36 = .ok (.iload_n 1, 1) := by decide +kernel
theorem dX8_reach_37 : decode cX8_reach 37 = .ok (.iaload, 1) := by decide +kernel
theorem dX8_reach_38 : decode cX8_reach 38 = .ok (.istore 4, 2) := by decide +kernel
theorem dX8_reach_40 : decode cX8_reach 40 = .ok (.iload_n 2, 1) := by decide +kernel
theorem dX8_reach_41 : decode cX8_reach 41 = .ok (.iconst 1, 1) := by decide +kernel
theorem dX8_reach_42 : decode cX8_reach 42 = .ok (.if_icmp .ne 7, 3) := by decide +kernel
theorem dX8_reach_45 : decode cX8_reach 45 = .ok (.iload_n 3, 1) := by decide +kernel
theorem dX8_reach_46 : decode cX8_reach 46 = .ok (.goto 12, 3) := by decide +kernel
theorem dX8_reach_49 : decode cX8_reach 49 = .ok (.aload_n 0, 1) := by decide +kernel
theorem dX8_reach_50 : decode cX8_reach 50 = .ok (.getfield 14, 3) := by decide +kernel
theorem dX8_reach_53 : decode cX8_reach 53 = .ok (.getfield 110, 3) := by decide +kernel
theorem dX8_reach_56 : decode cX8_reach 56 = .ok (.iload_n 1, 1) := by decide +kernel
theorem dX8_reach_57 : decode cX8_reach 57 = .ok (.iaload, 1) := by decide +kernel
theorem dX8_reach_58 : decode cX8_reach 58 = .ok (.istore 5, 2) := by decide +kernel
theorem dX8_reach_60 : decode cX8_reach 60 = .ok (.iload_n 2, 1) := by decide +kernel
theorem dX8_reach_61 : decode cX8_reach 61 = .ok (.iconst 2, 1) := by decide +kernel
theorem dX8_reach_62 : decode cX8_reach 62 = .ok (.if_icmp .ne 7, 3) := by decide +kernel
theorem dX8_reach_65 : decode cX8_reach 65 = .ok (.iload_n 3, 1) := by decide +kernel
theorem dX8_reach_66 : decode cX8_reach 66 = .ok (.goto 12, 3) := by decide +kernel
theorem dX8_reach_69 : decode cX8_reach 69 = .ok (.aload_n 0, 1) := by decide +kernel
theorem dX8_reach_70 : decode cX8_reach 70 = .ok (.getfield 14, 3) := by decide +kernel
theorem dX8_reach_73 : decode cX8_reach 73 = .ok (.getfield 113, 3) := by decide +kernel
theorem dX8_reach_76 : decode cX8_reach 76 = .ok (.iload_n 1, 1) := by decide +kernel
theorem dX8_reach_77 : decode cX8_reach 77 = .ok (.iaload, 1) := by decide +kernel
theorem dX8_reach_78 : decode cX8_reach 78 = .ok (.istore 6, 2) := by decide +kernel
theorem dX8_reach_80 : decode cX8_reach 80 = .ok (.iload 4, 2) := by decide +kernel
theorem dX8_reach_82 : decode cX8_reach 82 = .ok (.iload 5, 2) := by decide +kernel
theorem dX8_reach_84 : decode cX8_reach 84 = .ok (.if_icmp .lt 10, 3) := by decide +kernel
theorem dX8_reach_87 : decode cX8_reach 87 = .ok (.iload 4, 2) := by decide +kernel
theorem dX8_reach_89 : decode cX8_reach 89 = .ok (.iload 6, 2) := by decide +kernel
theorem dX8_reach_91 : decode cX8_reach 91 = .ok (.if_icmp .le 6, 3) := by decide +kernel
theorem dX8_reach_94 : decode cX8_reach 94 = .ok (.bipush (-5), 2) := by decide +kernel
theorem dX8_reach_96 : decode cX8_reach 96 = .ok (.ireturn, 1) := by decide +kernel
theorem dX8_reach_97 : decode cX8_reach 97 = .ok (.aload_n 0, 1) := by decide +kernel
theorem dX8_reach_98 : decode cX8_reach 98 = .ok (.getfield 14, 3) := by decide +kernel
theorem dX8_reach_101 : decode cX8_reach 101 = .ok (.iload_n 1, 1) := by decide +kernel
theorem dX8_reach_102 : decode cX8_reach 102 = .ok (.iload_n 2, 1) := by decide +kernel
theorem dX8_reach_103 : decode cX8_reach 103 = .ok (.invokevirtual 116, 3) := by decide +kernel
theorem dX8_reach_106 : decode cX8_reach 106 = .ok (.istore 7, 2) := by decide +kernel
theorem dX8_reach_108 : decode cX8_reach 108 = .ok (.aload_n 0, 1) := by decide +kernel
theorem dX8_reach_109 : decode cX8_reach 109 = .ok (.getfield 14, 3) := by decide +kernel
theorem dX8_reach_112 : decode cX8_reach 112 = .ok (.iload_n 1, 1) := by decide +kernel
theorem dX8_reach_113 : decode cX8_reach 113 = .ok (.iload_n 2, 1) := by decide +kernel
theorem dX8_reach_114 : decode cX8_reach 114 = .ok (.iload_n 3, 1) := by decide +kernel
theorem dX8_reach_115 : decode cX8_reach 115 = .ok (.invokevirtual 119, 3) := by decide +kernel
theorem dX8_reach_118 : decode cX8_reach 118 = .ok (.iload 7, 2) := by decide +kernel
theorem dX8_reach_120 : decode cX8_reach 120 = .ok (.ireturn, 1) := by decide +kernel
theorem dX8_isReachSetting_0 : decode cX8_isReachSetting 0 = .ok (.iload_n 0, 1) := by decide +kernel
theorem dX8_isReachSetting_1 : decode cX8_isReachSetting 1 = .ok (.ifCond .lt 8, 3) := by decide +kernel
theorem dX8_isReachSetting_4 : decode cX8_isReachSetting 4 = .ok (.iload_n 0, 1) := by decide +kernel
theorem dX8_isReachSetting_5 : decode cX8_isReachSetting 5 = .ok (.iconst 3, 1) := by decide +kernel
theorem dX8_isReachSetting_6 : decode cX8_isReachSetting 6 = .ok (.if_icmp .le 5, 3) := by decide +kernel
theorem dX8_isReachSetting_9 : decode cX8_isReachSetting 9 = .ok (.iconst 0, 1) := by decide +kernel
theorem dX8_isReachSetting_10 : decode cX8_isReachSetting 10 = .ok (.ireturn, 1) := by decide +kernel
theorem dX8_isReachSetting_11 : decode cX8_isReachSetting 11 = .ok (.iload_n 1, 1) := by decide +kernel
theorem dX8_isReachSetting_12 : decode cX8_isReachSetting 12 = .ok (.ifCond .lt 24, 3) := by decide +kernel
theorem dX8_isReachSetting_15 : decode cX8_isReachSetting 15 = .ok (.iload_n 1, 1) := by decide +kernel
theorem dX8_isReachSetting_16 : decode cX8_isReachSetting 16 = .ok (.iload_n 0, 1) := by decide +kernel
theorem dX8_isReachSetting_17 : decode cX8_isReachSetting 17 = .ok (.iconst 3, 1) := by decide +kernel
theorem dX8_isReachSetting_18 : decode cX8_isReachSetting 18 = .ok (.if_icmp .ne 8, 3) := by decide +kernel
theorem dX8_isReachSetting_21 : decode cX8_isReachSetting 21 = .ok (.bipush 99, 2) := by decide +kernel
theorem dX8_isReachSetting_23 : decode cX8_isReachSetting 23 = .ok (.goto 6, 3) := by decide +kernel
theorem dX8_isReachSetting_26 : decode cX8_isReachSetting 26 = .ok (.sipush 9999, 3) := by decide +kernel
theorem dX8_isReachSetting_29 : decode cX8_isReachSetting 29 = .ok (.if_icmp .gt 7, 3) := by decide +kernel
theorem dX8_isReachSetting_32 : decode cX8_isReachSetting 32 = .ok (.iconst 1, 1) := by decide +kernel
theorem dX8_isReachSetting_33 : decode cX8_isReachSetting 33 = .ok (.goto 4, 3) := by decide +kernel
theorem dX8_isReachSetting_36 : decode cX8_isReachSetting 36 = .ok (.iconst 0, 1) := by decide +kernel
theorem dX8_isReachSetting_37 : decode cX8_isReachSetting 37 = .ok (.ireturn, 1) := by decide +kernel
theorem dX8_ofReach_0 : decode cX8_ofReach 0 = .ok (.aload_n 0, 1) := by decide +kernel
theorem dX8_ofReach_1 : decode cX8_ofReach 1 = .ok (.getfield 14, 3) := by decide +kernel
theorem dX8_ofReach_4 : decode cX8_ofReach 4 = .ok (.iload_n 1, 1) := by decide +kernel
theorem dX8_ofReach_5 : decode cX8_ofReach 5 = .ok (.invokevirtual 101, 3) := by decide +kernel
theorem dX8_ofReach_8 : decode cX8_ofReach 8 = .ok (.ifCond .eq 12, 3) := by decide +kernel
theorem dX8_ofReach_11 : decode cX8_ofReach 11 = .ok (.iload_n 2, 1) := by decide +kernel
theorem dX8_ofReach_12 : decode cX8_ofReach 12 = .ok (.ifCond .lt 8, 3) := by decide +kernel
theorem dX8_ofReach_15 : decode cX8_ofReach 15 = .ok (.iload_n 2, 1) := by decide +kernel
theorem dX8_ofReach_16 : decode cX8_ofReach 16 = .ok (.iconst 4, 1) := by decide +kernel
theorem dX8_ofReach_17 : decode cX8_ofReach 17 = .ok (.if_icmp .le 5, 3) := by decide +kernel
theorem dX8_ofReach_20 : decode cX8_ofReach 20 = .ok (.iconst (-1), 1) := by decide +kernel
theorem dX8_ofReach_21 : decode cX8_ofReach 21 = .ok (.ireturn, 1) := by decide +kernel
theorem dX8_ofReach_22 : decode cX8_ofReach 22 = .ok (.iload_n 2, 1) := by decide +kernel
theorem dX8_ofReach_23 : decode cX8_ofReach 23 = .ok (.iconst 4, 1) := by decide +kernel
theorem dX8_ofReach_24 : decode cX8_ofReach 24 = .ok (.if_icmp .ne 14, 3) := by decide +kernel
theorem dX8_ofReach_27 : decode cX8_ofReach 27 = .ok (.aload_n 0, 1) := by decide +kernel
theorem dX8_ofReach_28 : decode cX8_ofReach 28 = .ok (.getfield 21, 3) := by decide +kernel
theorem dX8_ofReach_31 : decode cX8_ofReach 31 = .ok (.iload_n 1, 1) := by decide +kernel
theorem dX8_ofReach_32 : decode cX8_ofReach 32 = .ok (.invokevirtual 123, 3) := by decide +kernel
theorem dX8_ofReach_35 : decode cX8_ofReach 35 = .ok (.goto 12, 3) := by decide +kernel
theorem dX8_ofReach_38 : decode cX8_ofReach 38 = .ok (.aload_n 0, 1) := by decide +kernel
theorem dX8_ofReach_39 : decode cX8_ofReach 39 = .ok (.getfield 14, 3) := by decide +kernel
theorem dX8_ofReach_42 : decode cX8_ofReach 42 = .ok (.iload_n 1, 1) := by decide +kernel
theorem dX8_ofReach_43 : decode cX8_ofReach 43 = .ok (.iload_n 2, 1) := by decide +kernel
theorem dX8_ofReach_44 : decode cX8_ofReach 44 = .ok (.invokevirtual 116, 3) := by decide +kernel
theorem dX8_ofReach_47 : decode cX8_ofReach 47 = .ok (.ireturn, 1) := by decide +kernel
theorem dX8_feeds_0 : decode cX8_feeds 0 = .ok (.iload_n 1, 1) := by decide +kernel
theorem dX8_feeds_1 : decode cX8_feeds 1 = .ok (.ifCond .lt 10, 3) := by decide +kernel
theorem dX8_feeds_4 : decode cX8_feeds 4 = .ok (.iload_n 1, 1) := by decide +kernel
theorem dX8_feeds_5 : decode cX8_feeds 5 = .ok (.sipush 999, 3) := by decide +kernel
theorem dX8_feeds_8 : decode cX8_feeds 8 = .ok (.if_icmp .le 5, 3) := by decide +kernel
theorem dX8_feeds_11 : decode cX8_feeds 11 = .ok (.iconst (-1), 1) := by decide +kernel
theorem dX8_feeds_12 : decode cX8_feeds 12 = .ok (.ireturn, 1) := by decide +kernel
theorem dX8_feeds_13 : decode cX8_feeds 13 = .ok (.aload_n 0, 1) := by decide +kernel
theorem dX8_feeds_14 : decode cX8_feeds 14 = .ok (.getfield 14, 3) := by decide +kernel
theorem dX8_feeds_17 : decode cX8_feeds 17 = .ok (.getfield 127, 3) := by decide +kernel
theorem dX8_feeds_20 : decode cX8_feeds 20 = .ok (.istore_n 2, 1) := by decide +kernel
theorem dX8_feeds_21 : decode cX8_feeds 21 = .ok (.aload_n 0, 1) := by decide +kernel
theorem dX8_feeds_22 : decode cX8_feeds 22 = .ok (.getfield 14, 3) := by decide +kernel
theorem dX8_feeds_25 : decode cX8_feeds 25 = .ok (.iload_n 1, 1) := by decide +kernel
theorem dX8_feeds_26 : decode cX8_feeds 26 = .ok (.putfield 127, 3) := by decide +kernel
theorem dX8_feeds_29 : decode cX8_feeds 29 = .ok (.iload_n 2, 1) := by decide +kernel
theorem dX8_feeds_30 : decode cX8_feeds 30 = .ok (.ireturn, 1) := by decide +kernel
theorem dX8_feed_0 : decode cX8_feed 0 = .ok (.iload_n 1, 1) := by decide +kernel
theorem dX8_feed_1 : decode cX8_feed 1 = .ok (.bipush 32, 2) := by decide +kernel
theorem dX8_feed_3 : decode cX8_feed 3 = .ok (.if_icmp .lt 9, 3) := by decide +kernel
theorem dX8_feed_6 : decode cX8_feed 6 = .ok (.iload_n 1, 1) := by decide +kernel
theorem dX8_feed_7 : decode cX8_feed 7 = .ok (.bipush 126, 2) := by decide +kernel
theorem dX8_feed_9 : decode cX8_feed 9 = .ok (.if_icmp .le 5, 3) := by decide +kernel
theorem dX8_feed_12 : decode cX8_feed 12 = .ok (.iconst (-1), 1) := by decide +kernel
theorem dX8_feed_13 : decode cX8_feed 13 = .ok (.ireturn, 1) := by decide +kernel
theorem dX8_feed_14 : decode cX8_feed 14 = .ok (.aload_n 0, 1) := by decide +kernel
theorem dX8_feed_15 : decode cX8_feed 15 = .ok (.getfield 28, 3) := by decide +kernel
theorem dX8_feed_18 : decode cX8_feed 18 = .ok (.iload_n 1, 1) := by decide +kernel
theorem dX8_feed_19 : decode cX8_feed 19 = .ok (.invokevirtual 130, 3) := by decide +kernel
theorem dX8_feed_22 : decode cX8_feed 22 = .ok (.ifCond .eq 13, 3) := by decide +kernel
theorem dX8_feed_25 : decode cX8_feed 25 = .ok (.aload_n 0, 1) := by decide +kernel
theorem dX8_feed_26 : decode cX8_feed 26 = .ok (.getfield 28, 3) := by decide +kernel
theorem dX8_feed_29 : decode cX8_feed 29 = .ok (.getfield 133, 3) := by decide +kernel
theorem dX8_feed_32 : decode cX8_feed 32 = .ok (.goto 5, 3) := by decide +kernel
theorem dX8_feed_35 : decode cX8_feed 35 = .ok (.bipush (-3), 2) := by decide +kernel
theorem dX8_feed_37 : decode cX8_feed 37 = .ok (.ireturn, 1) := by decide +kernel
theorem dX8_boats_0 : decode cX8_boats 0 = .ok (.aload_n 0, 1) := by decide +kernel
theorem dX8_boats_1 : decode cX8_boats 1 = .ok (.invokevirtual 136, 3) := by decide +kernel
theorem dX8_boats_4 : decode cX8_boats 4 = .ok (.istore_n 1, 1) := by decide +kernel
theorem dX8_boats_5 : decode cX8_boats 5 = .ok (.aload_n 0, 1) := by decide +kernel
theorem dX8_boats_6 : decode cX8_boats 6 = .ok (.getfield 28, 3) := by decide +kernel
theorem dX8_boats_9 : decode cX8_boats 9 = .ok (.iconst 0, 1) := by decide +kernel
theorem dX8_boats_10 : decode cX8_boats 10 = .ok (.putfield 133, 3) := by decide +kernel
theorem dX8_boats_13 : decode cX8_boats 13 = .ok (.iload_n 1, 1) := by decide +kernel
theorem dX8_boats_14 : decode cX8_boats 14 = .ok (.ireturn, 1) := by decide +kernel
theorem dX8_readBoats_0 : decode cX8_readBoats 0 = .ok (.aload_n 0, 1) := by decide +kernel
theorem dX8_readBoats_1 : decode cX8_readBoats 1 = .ok (.getfield 41, 3) := by decide +kernel
theorem dX8_readBoats_4 : decode cX8_readBoats 4 = .ok (.aload_n 0, 1) := by decide +kernel
theorem dX8_readBoats_5 : decode cX8_readBoats 5 = .ok (.getfield 21, 3) := by decide +kernel
theorem dX8_readBoats_8 : decode cX8_readBoats 8 = .ok (.invokevirtual 140, 3) := by decide +kernel
theorem dX8_readBoats_11 : decode cX8_readBoats 11 = .ok (.aload_n 0, 1) := by decide +kernel
theorem dX8_readBoats_12 : decode cX8_readBoats 12 = .ok (.getfield 28, 3) := by decide +kernel
theorem dX8_readBoats_15 : decode cX8_readBoats 15 = .ok (.iconst 0, 1) := by decide +kernel
theorem dX8_readBoats_16 : decode cX8_readBoats 16 = .ok (.putfield 144, 3) := by decide +kernel
theorem dX8_readBoats_19 : decode cX8_readBoats 19 = .ok (.iconst 1, 1) := by decide +kernel
theorem dX8_readBoats_20 : decode cX8_readBoats 20 = .ok (.istore_n 1, 1) := by decide +kernel
theorem dX8_readBoats_21 : decode cX8_readBoats 21 = .ok (.iload_n 1, 1) := by decide +kernel
theorem dX8_readBoats_22 : decode cX8_readBoats 22 = .ok (.bipush 60, 2) := by decide +kernel
theorem dX8_readBoats_24 : decode cX8_readBoats 24 = .ok (.if_icmp .gt 85, 3) := by decide +kernel
theorem dX8_readBoats_27 : decode cX8_readBoats 27 = .ok (.aload_n 0, 1) := by decide +kernel
theorem dX8_readBoats_28 : decode cX8_readBoats 28 = .ok (.getfield 28, 3) := by decide +kernel
theorem dX8_readBoats_31 : decode cX8_readBoats 31 = .ok (.aload_n 0, 1) := by decide +kernel
theorem dX8_readBoats_32 : decode cX8_readBoats 32 = .ok (.getfield 14, 3) := by decide +kernel
theorem dX8_readBoats_35 : decode cX8_readBoats 35 = .ok (.getfield 72, 3) := by decide +kernel
theorem dX8_readBoats_38 : decode cX8_readBoats 38 = .ok (.invokevirtual 147, 3) := by decide +kernel
theorem dX8_readBoats_41 : decode cX8_readBoats 41 = .ok (.ifCond .ne 14, 3) := by decide +kernel
theorem dX8_readBoats_44 : decode cX8_readBoats 44 = .ok (.bipush (-100), 2) := by decide +kernel
theorem dX8_readBoats_46 : decode cX8_readBoats 46 = .ok (.aload_n 0, 1) := by decide +kernel
theorem dX8_readBoats_47 : decode cX8_readBoats 47 = .ok (.getfield 28, 3) := by decide +kernel
theorem dX8_readBoats_50 : decode cX8_readBoats 50 = .ok (.getfield 144, 3) := by decide +kernel
theorem dX8_readBoats_53 : decode cX8_readBoats 53 = .ok (.isub, 1) := by decide +kernel
theorem dX8_readBoats_54 : decode cX8_readBoats 54 = .ok (.ireturn, 1) := by decide +kernel
theorem dX8_readBoats_55 : decode cX8_readBoats 55 = .ok (.aload_n 0, 1) := by decide +kernel
theorem dX8_readBoats_56 : decode cX8_readBoats 56 = .ok (.getfield 41, 3) := by decide +kernel
theorem dX8_readBoats_59 : decode cX8_readBoats 59 = .ok (.aload_n 0, 1) := by decide +kernel
theorem dX8_readBoats_60 : decode cX8_readBoats 60 = .ok (.getfield 28, 3) := by decide +kernel
theorem dX8_readBoats_63 : decode cX8_readBoats 63 = .ok (.invokevirtual 150, 3) := by decide +kernel
theorem dX8_readBoats_66 : decode cX8_readBoats 66 = .ok (.aload_n 0, 1) := by decide +kernel
theorem dX8_readBoats_67 : decode cX8_readBoats 67 = .ok (.getfield 28, 3) := by decide +kernel
theorem dX8_readBoats_70 : decode cX8_readBoats 70 = .ok (.invokevirtual 154, 3) := by decide +kernel
theorem dX8_readBoats_73 : decode cX8_readBoats 73 = .ok (.ifCond .eq 9, 3) := by decide +kernel
theorem dX8_readBoats_76 : decode cX8_readBoats 76 = .ok (.aload_n 0, 1) := by decide +kernel
theorem dX8_readBoats_77 : decode cX8_readBoats 77 = .ok (.iload_n 1, 1) := by decide +kernel
theorem dX8_readBoats_78 : decode cX8_readBoats 78 = .ok (.invokevirtual 158, 3) := by decide +kernel
theorem dX8_readBoats_81 : decode cX8_readBoats 81 = .ok (.ireturn, 1) := by decide +kernel
theorem dX8_readBoats_82 : decode cX8_readBoats 82 = .ok (.aload_n 0, 1) := by decide +kernel
theorem dX8_readBoats_83 : decode cX8_readBoats 83 = .ok (.getfield 28, 3) := by decide +kernel
theorem dX8_readBoats_86 : decode cX8_readBoats 86 = .ok (.invokevirtual 161, 3) := by decide +kernel
theorem dX8_readBoats_89 : decode cX8_readBoats 89 = .ok (.ifCond .ne 14, 3) := by decide +kernel
theorem dX8_readBoats_92 : decode cX8_readBoats 92 = .ok (.bipush (-100), 2) := by decide +kernel
theorem dX8_readBoats_94 : decode cX8_readBoats 94 = .ok (.aload_n 0, 1) := by decide +kernel
theorem dX8_readBoats_95 : decode cX8_readBoats 95 = .ok (.getfield 28, 3) := by decide +kernel
theorem dX8_readBoats_98 : decode cX8_readBoats 98 = .ok (.getfield 144, 3) := by decide +kernel
theorem dX8_readBoats_101 : decode cX8_readBoats 101 = .ok (.isub, 1) := by decide +kernel
theorem dX8_readBoats_102 : decode cX8_readBoats 102 = .ok (.ireturn, 1) := by decide +kernel
theorem dX8_readBoats_103 : decode cX8_readBoats 103 = .ok (.iinc 1 1, 3) := by decide +kernel
theorem dX8_readBoats_106 : decode cX8_readBoats 106 = .ok (.goto (-85), 3) := by decide +kernel
theorem dX8_readBoats_109 : decode cX8_readBoats 109 = .ok (.bipush (-100), 2) := by decide +kernel
theorem dX8_readBoats_111 : decode cX8_readBoats 111 = .ok (.aload_n 0, 1) := by decide +kernel
theorem dX8_readBoats_112 : decode cX8_readBoats 112 = .ok (.getfield 28, 3) := by decide +kernel
theorem dX8_readBoats_115 : decode cX8_readBoats 115 = .ok (.getfield 144, 3) := by decide +kernel
theorem dX8_readBoats_118 : decode cX8_readBoats 118 = .ok (.isub, 1) := by decide +kernel
theorem dX8_readBoats_119 : decode cX8_readBoats 119 = .ok (.ireturn, 1) := by decide +kernel
theorem dX8_takeFleetInThought_0 : decode cX8_takeFleetInThought 0 = .ok (.aload_n 0, 1) := by decide +kernel
theorem dX8_takeFleetInThought_1 : decode cX8_takeFleetInThought 1 = .ok (.getfield 41, 3) := by decide +kernel
theorem dX8_takeFleetInThought_4 : decode cX8_takeFleetInThought 4 = .ok (.getfield 76, 3) := by decide +kernel
theorem dX8_takeFleetInThought_7 : decode cX8_takeFleetInThought 7 = .ok (.bipush 12, 2) := by decide +kernel
theorem dX8_takeFleetInThought_9 : decode cX8_takeFleetInThought 9 = .ok (.if_icmp .le 6, 3) := by decide +kernel
theorem dX8_takeFleetInThought_12 : decode cX8_takeFleetInThought 12 = .ok (.bipush (-3), 2) := by decide +kernel
theorem dX8_takeFleetInThought_14 : decode cX8_takeFleetInThought 14 = .ok (.ireturn, 1) := by decide +kernel
theorem dX8_takeFleetInThought_15 : decode cX8_takeFleetInThought 15 = .ok (.aload_n 0, 1) := by decide +kernel
theorem dX8_takeFleetInThought_16 : decode cX8_takeFleetInThought 16 = .ok (.getfield 21, 3) := by decide +kernel
theorem dX8_takeFleetInThought_19 : decode cX8_takeFleetInThought 19 = .ok (.aload_n 0, 1) := by decide +kernel
theorem dX8_takeFleetInThought_20 : decode cX8_takeFleetInThought 20 = .ok (.getfield 41, 3) := by decide +kernel
theorem dX8_takeFleetInThought_23 : decode cX8_takeFleetInThought 23 = .ok (.invokevirtual 140, 3) := by decide +kernel
theorem dX8_takeFleetInThought_26 : decode cX8_takeFleetInThought 26 = .ok (.iload_n 1, 1) := by decide +kernel
theorem dX8_takeFleetInThought_27 : decode cX8_takeFleetInThought 27 = .ok (.ireturn, 1) := by decide +kernel
theorem dX8_boat_0 : decode cX8_boat 0 = .ok (.aload_n 0, 1) := by decide +kernel
theorem dX8_boat_1 : decode cX8_boat 1 = .ok (.getfield 21, 3) := by decide +kernel
theorem dX8_boat_4 : decode cX8_boat 4 = .ok (.iload_n 1, 1) := by decide +kernel
theorem dX8_boat_5 : decode cX8_boat 5 = .ok (.invokevirtual 164, 3) := by decide +kernel
theorem dX8_boat_8 : decode cX8_boat 8 = .ok (.ifCond .eq 18, 3) := by decide +kernel
theorem dX8_boat_11 : decode cX8_boat 11 = .ok (.iload_n 2, 1) := by decide +kernel
theorem dX8_boat_12 : decode cX8_boat 12 = .ok (.ifCond .lt 14, 3) := by decide +kernel
theorem dX8_boat_15 : decode cX8_boat 15 = .ok (.iload_n 2, 1) := by decide +kernel
theorem dX8_boat_16 : decode cX8_boat 16 = .ok (.iconst 4, 1) := by decide +kernel
theorem dX8_boat_17 : decode cX8_boat 17 = .ok (.if_icmp .le 11, 3) := by decide +kernel
theorem dX8_boat_20 : decode cX8_boat 20 = .ok (.iload_n 2, 1) := by decide +kernel
theorem dX8_boat_21 : decode cX8_boat 21 = .ok (.bipush 10, 2) := by decide +kernel
theorem dX8_boat_23 : decode cX8_boat 23 = .ok (.if_icmp .ge 5, 3) := by decide +kernel
theorem dX8_boat_26 : decode cX8_boat 26 = .ok (.iconst (-1), 1) := by decide +kernel
theorem dX8_boat_27 : decode cX8_boat 27 = .ok (.ireturn, 1) := by decide +kernel
theorem dX8_boat_28 : decode cX8_boat 28 = .ok (.iload_n 2, 1) := by decide +kernel
theorem dX8_boat_29 : decode cX8_boat 29 = .ok (.bipush 10, 2) := by decide +kernel
theorem dX8_boat_31 : decode cX8_boat 31 = .ok (.if_icmp .ge 15, 3) := by decide +kernel
theorem dX8_boat_34 : decode cX8_boat 34 = .ok (.aload_n 0, 1) := by decide +kernel
theorem dX8_boat_35 : decode cX8_boat 35 = .ok (.getfield 21, 3) := by decide +kernel
theorem dX8_boat_38 : decode cX8_boat 38 = .ok (.iload_n 1, 1) := by decide +kernel
theorem dX8_boat_39 : decode cX8_boat 39 = .ok (.iload_n 2, 1) := by decide +kernel
theorem dX8_boat_40 : decode cX8_boat 40 = .ok (.invokevirtual 167, 3) := by decide +kernel
theorem dX8_boat_43 : decode cX8_boat 43 = .ok (.goto 15, 3) := by decide +kernel
theorem dX8_boat_46 : decode cX8_boat 46 = .ok (.aload_n 0, 1) := by decide +kernel
theorem dX8_boat_47 : decode cX8_boat 47 = .ok (.getfield 21, 3) := by decide +kernel
theorem dX8_boat_50 : decode cX8_boat 50 = .ok (.iload_n 1, 1) := by decide +kernel
theorem dX8_boat_51 : decode cX8_boat 51 = .ok (.iload_n 2, 1) := by decide +kernel
theorem dX8_boat_52 : decode cX8_boat 52 = .ok (.bipush 10, 2) := by decide +kernel
theorem dX8_boat_54 : decode cX8_boat 54 = .ok (.isub, 1) := by decide +kernel
theorem dX8_boat_55 : decode cX8_boat 55 = .ok (.invokevirtual 170, 3) := by decide +kernel
theorem dX8_boat_58 : decode cX8_boat 58 = .ok (.ireturn, 1) := by decide +kernel
theorem dX8_find_0 : decode cX8_find 0 = .ok (.aload_n 0, 1) := by decide +kernel
theorem dX8_find_1 : decode cX8_find 1 = .ok (.getfield 28, 3) := by decide +kernel
theorem dX8_find_4 : decode cX8_find 4 = .ok (.iconst 0, 1) := by decide +kernel
theorem dX8_find_5 : decode cX8_find 5 = .ok (.putfield 144, 3) := by decide +kernel
theorem dX8_find_8 : decode cX8_find 8 = .ok (.aload_n 0, 1) := by decide +kernel
theorem dX8_find_9 : decode cX8_find 9 = .ok (.getfield 28, 3) := by decide +kernel
theorem dX8_find_12 : decode cX8_find 12 = .ok (.invokevirtual 173, 3) := by decide +kernel
theorem dX8_find_15 : decode cX8_find 15 = .ok (.istore_n 1, 1) := by decide +kernel
theorem dX8_find_16 : decode cX8_find 16 = .ok (.iload_n 1, 1) := by decide +kernel
theorem dX8_find_17 : decode cX8_find 17 = .ok (.ifCond .eq 17, 3) := by decide +kernel
theorem dX8_find_20 : decode cX8_find 20 = .ok (.aload_n 0, 1) := by decide +kernel
theorem dX8_find_21 : decode cX8_find 21 = .ok (.getfield 28, 3) := by decide +kernel
theorem dX8_find_24 : decode cX8_find 24 = .ok (.invokevirtual 154, 3) := by decide +kernel
theorem dX8_find_27 : decode cX8_find 27 = .ok (.ifCond .eq 7, 3) := by decide +kernel
theorem dX8_find_30 : decode cX8_find 30 = .ok (.iconst 1, 1) := by decide +kernel
theorem dX8_find_31 : decode cX8_find 31 = .ok (.goto 4, 3) := by decide +kernel
theorem dX8_find_34 : decode cX8_find 34 = .ok (.iconst 0, 1) := by decide +kernel
theorem dX8_find_35 : decode cX8_find 35 = .ok (.istore_n 2, 1) := by decide +kernel
theorem dX8_find_36 : decode cX8_find 36 = .ok (.aload_n 0, 1) := by decide +kernel
theorem dX8_find_37 : decode cX8_find 37 = .ok (.getfield 28, 3) := by decide +kernel
theorem dX8_find_40 : decode cX8_find 40 = .ok (.iconst 0, 1) := by decide +kernel
theorem dX8_find_41 : decode cX8_find 41 = .ok (.putfield 133, 3) := by decide +kernel
theorem dX8_find_44 : decode cX8_find 44 = .ok (.iload_n 2, 1) := by decide +kernel
theorem dX8_find_45 : decode cX8_find 45 = .ok (.ifCond .eq 14, 3) := by decide +kernel
theorem dX8_find_48 : decode cX8_find 48 = .ok (.aload_n 0, 1) := by decide +kernel
theorem dX8_find_49 : decode cX8_find 49 = .ok (.getfield 21, 3) := by decide +kernel
theorem dX8_find_52 : decode cX8_find 52 = .ok (.iload_n 1, 1) := by decide +kernel
theorem dX8_find_53 : decode cX8_find 53 = .ok (.invokevirtual 176, 3) := by decide +kernel
theorem dX8_find_56 : decode cX8_find 56 = .ok (.goto 5, 3) := by decide +kernel
theorem dX8_find_59 : decode cX8_find 59 = .ok (.bipush (-2), 2) := by decide +kernel
theorem dX8_find_61 : decode cX8_find 61 = .ok (.ireturn, 1) := by decide +kernel
theorem dX8_leaves_0 : decode cX8_leaves 0 = .ok (.aload_n 0, 1) := by decide +kernel
theorem dX8_leaves_1 : decode cX8_leaves 1 = .ok (.getfield 21, 3) := by decide +kernel
theorem dX8_leaves_4 : decode cX8_leaves 4 = .ok (.iload_n 1, 1) := by decide +kernel
theorem dX8_leaves_5 : decode cX8_leaves 5 = .ok (.invokevirtual 164, 3) := by decide +kernel
theorem dX8_leaves_8 : decode cX8_leaves 8 = .ok (.ifCond .ne 5, 3) := by decide +kernel
theorem dX8_leaves_11 : decode cX8_leaves 11 = .ok (.iconst (-1), 1) := by decide +kernel
theorem dX8_leaves_12 : decode cX8_leaves 12 = .ok (.ireturn, 1) := by decide +kernel
theorem dX8_leaves_13 : decode cX8_leaves 13 = .ok (.aload_n 0, 1) := by decide +kernel
theorem dX8_leaves_14 : decode cX8_leaves 14 = .ok (.getfield 21, 3) := by decide +kernel
theorem dX8_leaves_17 : decode cX8_leaves 17 = .ok (.iload_n 1, 1) := by decide +kernel
theorem dX8_leaves_18 : decode cX8_leaves 18 = .ok (.invokevirtual 179, 3) := by decide +kernel
theorem dX8_leaves_21 : decode cX8_leaves 21 = .ok (.aload_n 0, 1) := by decide +kernel
theorem dX8_leaves_22 : decode cX8_leaves 22 = .ok (.getfield 21, 3) := by decide +kernel
theorem dX8_leaves_25 : decode cX8_leaves 25 = .ok (.getfield 76, 3) := by decide +kernel
theorem dX8_leaves_28 : decode cX8_leaves 28 = .ok (.ireturn, 1) := by decide +kernel
theorem dX8_about_0 : decode cX8_about 0 = .ok (.aload_n 0, 1) := by decide +kernel
theorem dX8_about_1 : decode cX8_about 1 = .ok (.getfield 21, 3) := by decide +kernel
theorem dX8_about_4 : decode cX8_about 4 = .ok (.iload_n 1, 1) := by decide +kernel
theorem dX8_about_5 : decode cX8_about 5 = .ok (.invokevirtual 164, 3) := by decide +kernel
theorem dX8_about_8 : decode cX8_about 8 = .ok (.ifCond .ne 5, 3) := by decide +kernel
theorem dX8_about_11 : decode cX8_about 11 = .ok (.iconst (-1), 1) := by decide +kernel
theorem dX8_about_12 : decode cX8_about 12 = .ok (.ireturn, 1) := by decide +kernel
theorem dX8_about_13 : decode cX8_about 13 = .ok (.aload_n 0, 1) := by decide +kernel
theorem dX8_about_14 : decode cX8_about 14 = .ok (.getfield 21, 3) := by decide +kernel
theorem dX8_about_17 : decode cX8_about 17 = .ok (.getfield 182, 3) := by decide +kernel
theorem dX8_about_20 : decode cX8_about 20 = .ok (.iload_n 1, 1) := by decide +kernel
theorem dX8_about_21 : decode cX8_about 21 = .ok (.aload_n 0, 1) := by decide +kernel
theorem dX8_about_22 : decode cX8_about 22 = .ok (.getfield 21, 3) := by decide +kernel
theorem dX8_about_25 : decode cX8_about 25 = .ok (.getfield 182, 3) := by decide +kernel
theorem dX8_about_28 : decode cX8_about 28 = .ok (.iload_n 1, 1) := by decide +kernel
theorem dX8_about_29 : decode cX8_about 29 = .ok (.baload, 1) := by decide +kernel
theorem dX8_about_30 : decode cX8_about 30 = .ok (.ifCond .ne 7, 3) := by decide +kernel
theorem dX8_about_33 : decode cX8_about 33 = .ok (.iconst 1, 1) := by decide +kernel
theorem dX8_about_34 : decode cX8_about 34 = .ok (.goto 4, 3) := by decide +kernel
theorem dX8_about_37 : decode cX8_about 37 = .ok (.iconst 0, 1) := by decide +kernel
theorem dX8_about_38 : decode cX8_about 38 = .ok (.bastore, 1) := by decide +kernel
theorem dX8_about_39 : decode cX8_about 39 = .ok (.aload_n 0, 1) := by decide +kernel
theorem dX8_about_40 : decode cX8_about 40 = .ok (.getfield 21, 3) := by decide +kernel
theorem dX8_about_43 : decode cX8_about 43 = .ok (.getfield 182, 3) := by decide +kernel
theorem dX8_about_46 : decode cX8_about 46 = .ok (.iload_n 1, 1) := by decide +kernel
theorem dX8_about_47 : decode cX8_about 47 = .ok (.baload, 1) := by decide +kernel
theorem dX8_about_48 : decode cX8_about 48 = .ok (.ifCond .eq 7, 3) := by decide +kernel
theorem dX8_about_51 : decode cX8_about 51 = .ok (.iconst 1, 1) := by decide +kernel
theorem dX8_about_52 : decode cX8_about 52 = .ok (.goto 4, 3) := by decide +kernel
theorem dX8_about_55 : decode cX8_about 55 = .ok (.iconst 0, 1) := by decide +kernel
theorem dX8_about_56 : decode cX8_about 56 = .ok (.ireturn, 1) := by decide +kernel
theorem dX8_pass_0 : decode cX8_pass 0 = .ok (.aload_n 0, 1) := by decide +kernel
theorem dX8_pass_1 : decode cX8_pass 1 = .ok (.getfield 21, 3) := by decide +kernel
theorem dX8_pass_4 : decode cX8_pass 4 = .ok (.iload_n 1, 1) := by decide +kernel
theorem dX8_pass_5 : decode cX8_pass 5 = .ok (.invokevirtual 164, 3) := by decide +kernel
theorem dX8_pass_8 : decode cX8_pass 8 = .ok (.ifCond .ne 6, 3) := by decide +kernel
theorem dX8_pass_11 : decode cX8_pass 11 = .ok (.ldc 186, 2) := by decide +kernel
theorem dX8_pass_13 : decode cX8_pass 13 = .ok (.ireturn, 1) := by decide +kernel
theorem dX8_pass_14 : decode cX8_pass 14 = .ok (.aload_n 0, 1) := by decide +kernel
theorem dX8_pass_15 : decode cX8_pass 15 = .ok (.getfield 21, 3) := by decide +kernel
theorem dX8_pass_18 : decode cX8_pass 18 = .ok (.getfield 182, 3) := by decide +kernel
theorem dX8_pass_21 : decode cX8_pass 21 = .ok (.iload_n 1, 1) := by decide +kernel
theorem dX8_pass_22 : decode cX8_pass 22 = .ok (.baload, 1) := by decide +kernel
theorem dX8_pass_23 : decode cX8_pass 23 = .ok (.istore_n 2, 1) := by decide +kernel
theorem dX8_pass_24 : decode cX8_pass 24 = .ok (.aload_n 0, 1) := by decide +kernel
theorem dX8_pass_25 : decode cX8_pass 25 = .ok (.getfield 21, 3) := by decide +kernel
theorem dX8_pass_28 : decode cX8_pass 28 = .ok (.getfield 187, 3) := by decide +kernel
theorem dX8_pass_31 : decode cX8_pass 31 = .ok (.iload_n 1, 1) := by decide +kernel
theorem dX8_pass_32 : decode cX8_pass 32 = .ok (.iaload, 1) := by decide +kernel
theorem dX8_pass_33 : decode cX8_pass 33 = .ok (.iload_n 2, 1) := by decide +kernel
theorem dX8_pass_34 : decode cX8_pass 34 = .ok (.invokestatic 190, 3) := by decide +kernel
theorem dX8_pass_37 : decode cX8_pass 37 = .ok (.istore_n 3, 1) := by decide +kernel
theorem dX8_pass_38 : decode cX8_pass 38 = .ok (.aload_n 0, 1) := by decide +kernel
theorem dX8_pass_39 : decode cX8_pass 39 = .ok (.getfield 14, 3) := by decide +kernel
theorem dX8_pass_42 : decode cX8_pass 42 = .ok (.iload_n 3, 1) := by decide +kernel
theorem dX8_pass_43 : decode cX8_pass 43 = .ok (.invokevirtual 79, 3) := by decide +kernel
theorem dX8_pass_46 : decode cX8_pass 46 = .ok (.ifCond .ne 6, 3) := by decide +kernel
theorem dX8_pass_49 : decode cX8_pass 49 = .ok (.ldc 194, 2) := by decide +kernel
theorem dX8_pass_51 : decode cX8_pass 51 = .ok (.ireturn, 1) := by decide +kernel
theorem dX8_pass_52 : decode cX8_pass 52 = .ok (.aload_n 0, 1) := by decide +kernel
theorem dX8_pass_53 : decode cX8_pass 53 = .ok (.getfield 14, 3) := by decide +kernel
theorem dX8_pass_56 : decode cX8_pass 56 = .ok (.iload_n 3, 1) := by decide +kernel
theorem dX8_pass_57 : decode cX8_pass 57 = .ok (.iload_n 2, 1) := by decide +kernel
theorem dX8_pass_58 : decode cX8_pass 58 = .ok (.aload_n 0, 1) := by decide +kernel
theorem dX8_pass_59 : decode cX8_pass 59 = .ok (.getfield 21, 3) := by decide +kernel
theorem dX8_pass_62 : decode cX8_pass 62 = .ok (.getfield 195, 3) := by decide +kernel
theorem dX8_pass_65 : decode cX8_pass 65 = .ok (.iload_n 1, 1) := by decide +kernel
theorem dX8_pass_66 : decode cX8_pass 66 = .ok (.iaload, 1) := by decide +kernel
theorem dX8_pass_67 : decode cX8_pass 67 = .ok (.invokevirtual 198, 3) := by decide +kernel
theorem dX8_pass_70 : decode cX8_pass 70 = .ok (.istore 4, 2) := by decide +kernel
theorem dX8_pass_72 : decode cX8_pass 72 = .ok (.iload 4, 2) := by decide +kernel
theorem dX8_pass_74 : decode cX8_pass 74 = .ok (.ldc 202, 2) := by decide +kernel
theorem dX8_pass_76 : decode cX8_pass 76 = .ok (.if_icmp .eq 12, 3) := by decide +kernel
theorem dX8_pass_79 : decode cX8_pass 79 = .ok (.aload_n 0, 1) := by decide +kernel
theorem dX8_pass_80 : decode cX8_pass 80 = .ok (.getfield 21, 3) := by decide +kernel
theorem dX8_pass_83 : decode cX8_pass 83 = .ok (.iload_n 1, 1) := by decide +kernel
theorem dX8_pass_84 : decode cX8_pass 84 = .ok (.iconst 1, 1) := by decide +kernel
theorem dX8_pass_85 : decode cX8_pass 85 = .ok (.invokevirtual 203, 3) := by decide +kernel
theorem dX8_pass_88 : decode cX8_pass 88 = .ok (.iload 4, 2) := by decide +kernel
theorem dX8_pass_90 : decode cX8_pass 90 = .ok (.ireturn, 1) := by decide +kernel
theorem dX8_through_0 : decode cX8_through 0 = .ok (.aload_n 0, 1) := by decide +kernel
theorem dX8_through_1 : decode cX8_through 1 = .ok (.getfield 21, 3) := by decide +kernel
theorem dX8_through_4 : decode cX8_through 4 = .ok (.iload_n 1, 1) := by decide +kernel
theorem dX8_through_5 : decode cX8_through 5 = .ok (.invokevirtual 164, 3) := by decide +kernel
theorem dX8_through_8 : decode cX8_through 8 = .ok (.ifCond .ne 5, 3) := by decide +kernel
theorem dX8_through_11 : decode cX8_through 11 = .ok (.iconst (-1), 1) := by decide +kernel
theorem dX8_through_12 : decode cX8_through 12 = .ok (.ireturn, 1) := by decide +kernel
theorem dX8_through_13 : decode cX8_through 13 = .ok (.aload_n 0, 1) := by decide +kernel
theorem dX8_through_14 : decode cX8_through 14 = .ok (.getfield 14, 3) := by decide +kernel
theorem dX8_through_17 : decode cX8_through 17 = .ok (.aload_n 0, 1) := by decide +kernel
theorem dX8_through_18 : decode cX8_through 18 = .ok (.getfield 21, 3) := by decide +kernel
theorem dX8_through_21 : decode cX8_through 21 = .ok (.getfield 187, 3) := by decide +kernel
theorem dX8_through_24 : decode cX8_through 24 = .ok (.iload_n 1, 1) := by decide +kernel
theorem dX8_through_25 : decode cX8_through 25 = .ok (.iaload, 1) := by decide +kernel
theorem dX8_through_26 : decode cX8_through 26 = .ok (.aload_n 0, 1) := by decide +kernel
theorem dX8_through_27 : decode cX8_through 27 = .ok (.getfield 21, 3) := by decide +kernel
theorem dX8_through_30 : decode cX8_through 30 = .ok (.getfield 182, 3) := by decide +kernel
theorem dX8_through_33 : decode cX8_through 33 = .ok (.iload_n 1, 1) := by decide +kernel
theorem dX8_through_34 : decode cX8_through 34 = .ok (.baload, 1) := by decide +kernel
theorem dX8_through_35 : decode cX8_through 35 = .ok (.aload_n 0, 1) := by decide +kernel
theorem dX8_through_36 : decode cX8_through 36 = .ok (.getfield 21, 3) := by decide +kernel
theorem dX8_through_39 : decode cX8_through 39 = .ok (.getfield 195, 3) := by decide +kernel
theorem dX8_through_42 : decode cX8_through 42 = .ok (.iload_n 1, 1) := by decide +kernel
theorem dX8_through_43 : decode cX8_through 43 = .ok (.iaload, 1) := by decide +kernel
theorem dX8_through_44 : decode cX8_through 44 = .ok (.invokevirtual 207, 3) := by decide +kernel
theorem dX8_through_47 : decode cX8_through 47 = .ok (.istore_n 2, 1) := by decide +kernel
theorem dX8_through_48 : decode cX8_through 48 = .ok (.aload_n 0, 1) := by decide +kernel
theorem dX8_through_49 : decode cX8_through 49 = .ok (.getfield 21, 3) := by decide +kernel
theorem dX8_through_52 : decode cX8_through 52 = .ok (.iload_n 1, 1) := by decide +kernel
theorem dX8_through_53 : decode cX8_through 53 = .ok (.iload_n 2, 1) := by decide +kernel
theorem dX8_through_54 : decode cX8_through 54 = .ok (.invokevirtual 203, 3) := by decide +kernel
theorem dX8_through_57 : decode cX8_through 57 = .ok (.iload_n 2, 1) := by decide +kernel
theorem dX8_through_58 : decode cX8_through 58 = .ok (.ireturn, 1) := by decide +kernel
theorem dX8_costs_0 : decode cX8_costs 0 = .ok (.aload_n 0, 1) := by decide +kernel
theorem dX8_costs_1 : decode cX8_costs 1 = .ok (.getfield 21, 3) := by decide +kernel
theorem dX8_costs_4 : decode cX8_costs 4 = .ok (.iload_n 1, 1) := by decide +kernel
theorem dX8_costs_5 : decode cX8_costs 5 = .ok (.invokevirtual 164, 3) := by decide +kernel
theorem dX8_costs_8 : decode cX8_costs 8 = .ok (.ifCond .ne 6, 3) := by decide +kernel
theorem dX8_costs_11 : decode cX8_costs 11 = .ok (.ldc 186, 2) := by decide +kernel
theorem dX8_costs_13 : decode cX8_costs 13 = .ok (.ireturn, 1) := by decide +kernel
theorem dX8_costs_14 : decode cX8_costs 14 = .ok (.aload_n 0, 1) := by decide +kernel
theorem dX8_costs_15 : decode cX8_costs 15 = .ok (.getfield 38, 3) := by decide +kernel
theorem dX8_costs_18 : decode cX8_costs 18 = .ok (.aload_n 0, 1) := by decide +kernel
theorem dX8_costs_19 : decode cX8_costs 19 = .ok (.getfield 14, 3) := by decide +kernel
theorem dX8_costs_22 : decode cX8_costs 22 = .ok (.invokevirtual 210, 3) := by decide +kernel
theorem dX8_costs_25 : decode cX8_costs 25 = .ok (.aload_n 0, 1) := by decide +kernel
theorem dX8_costs_26 : decode cX8_costs 26 = .ok (.getfield 38, 3) := by decide +kernel
theorem dX8_costs_29 : decode cX8_costs 29 = .ok (.aload_n 0, 1) := by decide +kernel
theorem dX8_costs_30 : decode cX8_costs 30 = .ok (.getfield 21, 3) := by decide +kernel
theorem dX8_costs_33 : decode cX8_costs 33 = .ok (.getfield 187, 3) := by decide +kernel
theorem dX8_costs_36 : decode cX8_costs 36 = .ok (.iload_n 1, 1) := by decide +kernel
theorem dX8_costs_37 : decode cX8_costs 37 = .ok (.iaload, 1) := by decide +kernel
theorem dX8_costs_38 : decode cX8_costs 38 = .ok (.aload_n 0, 1) := by decide +kernel
theorem dX8_costs_39 : decode cX8_costs 39 = .ok (.getfield 21, 3) := by decide +kernel
theorem dX8_costs_42 : decode cX8_costs 42 = .ok (.getfield 182, 3) := by decide +kernel
theorem dX8_costs_45 : decode cX8_costs 45 = .ok (.iload_n 1, 1) := by decide +kernel
theorem dX8_costs_46 : decode cX8_costs 46 = .ok (.baload, 1) := by decide +kernel
theorem dX8_costs_47 : decode cX8_costs 47 = .ok (.aload_n 0, 1) := by decide +kernel
theorem dX8_costs_48 : decode cX8_costs 48 = .ok (.getfield 21, 3) := by decide +kernel
theorem dX8_costs_51 : decode cX8_costs 51 = .ok (.getfield 195, 3) := by decide +kernel
theorem dX8_costs_54 : decode cX8_costs 54 = .ok (.iload_n 1, 1) := by decide +kernel
theorem dX8_costs_55 : decode cX8_costs 55 = .ok (.iaload, 1) := by decide +kernel
theorem dX8_costs_56 : decode cX8_costs 56 = .ok (.invokevirtual 207, 3) := by decide +kernel
theorem dX8_costs_59 : decode cX8_costs 59 = .ok (.pop, 1) := by decide +kernel
theorem dX8_costs_60 : decode cX8_costs 60 = .ok (.aload_n 0, 1) := by decide +kernel
theorem dX8_costs_61 : decode cX8_costs 61 = .ok (.getfield 14, 3) := by decide +kernel
theorem dX8_costs_64 : decode cX8_costs 64 = .ok (.invokevirtual 213, 3) := by decide +kernel
theorem dX8_costs_67 : decode cX8_costs 67 = .ok (.aload_n 0, 1) := by decide +kernel
theorem dX8_costs_68 : decode cX8_costs 68 = .ok (.getfield 38, 3) := by decide +kernel
theorem dX8_costs_71 : decode cX8_costs 71 = .ok (.invokevirtual 213, 3) := by decide +kernel
theorem dX8_costs_74 : decode cX8_costs 74 = .ok (.isub, 1) := by decide +kernel
theorem dX8_costs_75 : decode cX8_costs 75 = .ok (.ireturn, 1) := by decide +kernel
theorem dX8_why_0 : decode cX8_why 0 = .ok (.iload_n 1, 1) := by decide +kernel
theorem dX8_why_1 : decode cX8_why 1 = .ok (.ifCond .lt 8, 3) := by decide +kernel
theorem dX8_why_4 : decode cX8_why 4 = .ok (.iload_n 1, 1) := by decide +kernel
theorem dX8_why_5 : decode cX8_why 5 = .ok (.iconst 3, 1) := by decide +kernel
theorem dX8_why_6 : decode cX8_why 6 = .ok (.if_icmp .le 7, 3) := by decide +kernel
theorem dX8_why_9 : decode cX8_why 9 = .ok (.iconst (-1), 1) := by decide +kernel
theorem dX8_why_10 : decode cX8_why 10 = .ok (.goto 14, 3) := by decide +kernel
theorem dX8_why_13 : decode cX8_why 13 = .ok (.aload_n 0, 1) := by decide +kernel
theorem dX8_why_14 : decode cX8_why 14 = .ok (.getfield 14, 3) := by decide +kernel
theorem dX8_why_17 : decode cX8_why 17 = .ok (.getfield 216, 3) := by decide +kernel
theorem dX8_why_20 : decode cX8_why 20 = .ok (.iload_n 1, 1) := by decide +kernel
theorem dX8_why_21 : decode cX8_why 21 = .ok (.invokevirtual 220, 3) := by decide +kernel
theorem dX8_why_24 : decode cX8_why 24 = .ok (.ireturn, 1) := by decide +kernel
theorem dX8_queue_0 : decode cX8_queue 0 = .ok (.aload_n 0, 1) := by decide +kernel
theorem dX8_queue_1 : decode cX8_queue 1 = .ok (.getfield 14, 3) := by decide +kernel
theorem dX8_queue_4 : decode cX8_queue 4 = .ok (.iload_n 1, 1) := by decide +kernel
theorem dX8_queue_5 : decode cX8_queue 5 = .ok (.invokevirtual 79, 3) := by decide +kernel
theorem dX8_queue_8 : decode cX8_queue 8 = .ok (.ifCond .eq 9, 3) := by decide +kernel
theorem dX8_queue_11 : decode cX8_queue 11 = .ok (.iload_n 2, 1) := by decide +kernel
theorem dX8_queue_12 : decode cX8_queue 12 = .ok (.bipush (-2), 2) := by decide +kernel
theorem dX8_queue_14 : decode cX8_queue 14 = .ok (.if_icmp .ge 5, 3) := by decide +kernel
theorem dX8_queue_17 : decode cX8_queue 17 = .ok (.iconst (-1), 1) := by decide +kernel
theorem dX8_queue_18 : decode cX8_queue 18 = .ok (.ireturn, 1) := by decide +kernel
theorem dX8_queue_19 : decode cX8_queue 19 = .ok (.aload_n 0, 1) := by decide +kernel
theorem dX8_queue_20 : decode cX8_queue 20 = .ok (.iload_n 1, 1) := by decide +kernel
theorem dX8_queue_21 : decode cX8_queue 21 = .ok (.invokevirtual 224, 3) := by decide +kernel
theorem dX8_queue_24 : decode cX8_queue 24 = .ok (.iload_n 2, 1) := by decide +kernel
theorem dX8_queue_25 : decode cX8_queue 25 = .ok (.ifCond .ge 26, 3) := by decide +kernel
theorem dX8_queue_28 : decode cX8_queue 28 = .ok (.iload_n 2, 1) := by decide +kernel
theorem dX8_queue_29 : decode cX8_queue 29 = .ok (.iconst (-1), 1) := by decide +kernel
theorem dX8_queue_30 : decode cX8_queue 30 = .ok (.if_icmp .ne 13, 3) := by decide +kernel
theorem dX8_queue_33 : decode cX8_queue 33 = .ok (.aload_n 0, 1) := by decide +kernel
theorem dX8_queue_34 : decode cX8_queue 34 = .ok (.getfield 47, 3) := by decide +kernel
theorem dX8_queue_37 : decode cX8_queue 37 = .ok (.getfield 227, 3) := by decide +kernel
theorem dX8_queue_40 : decode cX8_queue 40 = .ok (.goto 10, 3) := by decide +kernel
theorem dX8_queue_43 : decode cX8_queue 43 = .ok (.aload_n 0, 1) := by decide +kernel
theorem dX8_queue_44 : decode cX8_queue 44 = .ok (.getfield 51, 3) := by decide +kernel
theorem dX8_queue_47 : decode cX8_queue 47 = .ok (.getfield 227, 3) := by decide +kernel
theorem dX8_queue_50 : decode cX8_queue 50 = .ok (.ireturn, 1) := by decide +kernel
theorem dX8_queue_51 : decode cX8_queue 51 = .ok (.iload_n 2, 1) := by decide +kernel
theorem dX8_queue_52 : decode cX8_queue 52 = .ok (.bipush 20, 2) := by decide +kernel
theorem dX8_queue_54 : decode cX8_queue 54 = .ok (.if_icmp .ge 14, 3) := by decide +kernel
theorem dX8_queue_57 : decode cX8_queue 57 = .ok (.aload_n 0, 1) := by decide +kernel
theorem dX8_queue_58 : decode cX8_queue 58 = .ok (.getfield 47, 3) := by decide +kernel
theorem dX8_queue_61 : decode cX8_queue 61 = .ok (.iload_n 2, 1) := by decide +kernel
theorem dX8_queue_62 : decode cX8_queue 62 = .ok (.invokevirtual 228, 3) := by decide +kernel
theorem dX8_queue_65 : decode cX8_queue 65 = .ok (.goto 14, 3) := by decide +kernel
theorem dX8_queue_68 : decode cX8_queue 68 = .ok (.aload_n 0, 1) := by decide +kernel
theorem dX8_queue_69 : decode cX8_queue 69 = .ok (.getfield 51, 3) := by decide +kernel
theorem dX8_queue_72 : decode cX8_queue 72 = .ok (.iload_n 2, 1) := by decide +kernel
theorem dX8_queue_73 : decode cX8_queue 73 = .ok (.bipush 20, 2) := by decide +kernel
theorem dX8_queue_75 : decode cX8_queue 75 = .ok (.isub, 1) := by decide +kernel
theorem dX8_queue_76 : decode cX8_queue 76 = .ok (.invokevirtual 228, 3) := by decide +kernel
theorem dX8_queue_79 : decode cX8_queue 79 = .ok (.ireturn, 1) := by decide +kernel
theorem dX8_lineUp_0 : decode cX8_lineUp 0 = .ok (.aload_n 0, 1) := by decide +kernel
theorem dX8_lineUp_1 : decode cX8_lineUp 1 = .ok (.getfield 47, 3) := by decide +kernel
theorem dX8_lineUp_4 : decode cX8_lineUp 4 = .ok (.aload_n 0, 1) := by decide +kernel
theorem dX8_lineUp_5 : decode cX8_lineUp 5 = .ok (.getfield 21, 3) := by decide +kernel
theorem dX8_lineUp_8 : decode cX8_lineUp 8 = .ok (.iload_n 1, 1) := by decide +kernel
theorem dX8_lineUp_9 : decode cX8_lineUp 9 = .ok (.iconst 1, 1) := by decide +kernel
theorem dX8_lineUp_10 : decode cX8_lineUp 10 = .ok (.invokevirtual 231, 3) := by decide +kernel
theorem dX8_lineUp_13 : decode cX8_lineUp 13 = .ok (.aload_n 0, 1) := by decide +kernel
theorem dX8_lineUp_14 : decode cX8_lineUp 14 = .ok (.getfield 51, 3) := by decide +kernel
theorem dX8_lineUp_17 : decode cX8_lineUp 17 = .ok (.aload_n 0, 1) := by decide +kernel
theorem dX8_lineUp_18 : decode cX8_lineUp 18 = .ok (.getfield 21, 3) := by decide +kernel
theorem dX8_lineUp_21 : decode cX8_lineUp 21 = .ok (.iload_n 1, 1) := by decide +kernel
theorem dX8_lineUp_22 : decode cX8_lineUp 22 = .ok (.iconst 1, 1) := by decide +kernel
theorem dX8_lineUp_23 : decode cX8_lineUp 23 = .ok (.iadd, 1) := by decide +kernel
theorem dX8_lineUp_24 : decode cX8_lineUp 24 = .ok (.iconst 0, 1) := by decide +kernel
theorem dX8_lineUp_25 : decode cX8_lineUp 25 = .ok (.invokevirtual 231, 3) := by decide +kernel
theorem dX8_lineUp_28 : decode cX8_lineUp 28 = .ok (.return_, 1) := by decide +kernel
theorem dX8_orders_0 : decode cX8_orders 0 = .ok (.aload_n 0, 1) := by decide +kernel
theorem dX8_orders_1 : decode cX8_orders 1 = .ok (.getfield 14, 3) := by decide +kernel
theorem dX8_orders_4 : decode cX8_orders 4 = .ok (.iload_n 1, 1) := by decide +kernel
theorem dX8_orders_5 : decode cX8_orders 5 = .ok (.invokevirtual 79, 3) := by decide +kernel
theorem dX8_orders_8 : decode cX8_orders 8 = .ok (.ifCond .ne 5, 3) := by decide +kernel
theorem dX8_orders_11 : decode cX8_orders 11 = .ok (.iconst (-1), 1) := by decide +kernel
theorem dX8_orders_12 : decode cX8_orders 12 = .ok (.ireturn, 1) := by decide +kernel
theorem dX8_orders_13 : decode cX8_orders 13 = .ok (.aload_n 0, 1) := by decide +kernel
theorem dX8_orders_14 : decode cX8_orders 14 = .ok (.iload_n 1, 1) := by decide +kernel
theorem dX8_orders_15 : decode cX8_orders 15 = .ok (.invokevirtual 235, 3) := by decide +kernel
theorem dX8_orders_18 : decode cX8_orders 18 = .ok (.aload_n 0, 1) := by decide +kernel
theorem dX8_orders_19 : decode cX8_orders 19 = .ok (.getfield 64, 3) := by decide +kernel
theorem dX8_orders_22 : decode cX8_orders 22 = .ok (.getfield 238, 3) := by decide +kernel
theorem dX8_orders_25 : decode cX8_orders 25 = .ok (.ireturn, 1) := by decide +kernel
theorem dX8_weaveOrders_0 : decode cX8_weaveOrders 0 = .ok (.aload_n 0, 1) := by decide +kernel
theorem dX8_weaveOrders_1 : decode cX8_weaveOrders 1 = .ok (.iload_n 1, 1) := by decide +kernel
theorem dX8_weaveOrders_2 : decode cX8_weaveOrders 2 = .ok (.invokevirtual 224, 3) := by decide +kernel
theorem dX8_weaveOrders_5 : decode cX8_weaveOrders 5 = .ok (.aload_n 0, 1) := by decide +kernel
theorem dX8_weaveOrders_6 : decode cX8_weaveOrders 6 = .ok (.getfield 64, 3) := by decide +kernel
theorem dX8_weaveOrders_9 : decode cX8_weaveOrders 9 = .ok (.aload_n 0, 1) := by decide +kernel
theorem dX8_weaveOrders_10 : decode cX8_weaveOrders 10 = .ok (.getfield 47, 3) := by decide +kernel
theorem dX8_weaveOrders_13 : decode cX8_weaveOrders 13 = .ok (.aload_n 0, 1) := by decide +kernel
theorem dX8_weaveOrders_14 : decode cX8_weaveOrders 14 = .ok (.getfield 51, 3) := by decide +kernel
theorem dX8_weaveOrders_17 : decode cX8_weaveOrders 17 = .ok (.invokevirtual 241, 3) := by decide +kernel
theorem dX8_weaveOrders_20 : decode cX8_weaveOrders 20 = .ok (.aload_n 0, 1) := by decide +kernel
theorem dX8_weaveOrders_21 : decode cX8_weaveOrders 21 = .ok (.getfield 38, 3) := by decide +kernel
theorem dX8_weaveOrders_24 : decode cX8_weaveOrders 24 = .ok (.aload_n 0, 1) := by decide +kernel
theorem dX8_weaveOrders_25 : decode cX8_weaveOrders 25 = .ok (.getfield 14, 3) := by decide +kernel
theorem dX8_weaveOrders_28 : decode cX8_weaveOrders 28 = .ok (.invokevirtual 210, 3) := by decide +kernel
theorem dX8_weaveOrders_31 : decode cX8_weaveOrders 31 = .ok (.iconst 1, 1) := by decide +kernel
theorem dX8_weaveOrders_32 : decode cX8_weaveOrders 32 = .ok (.aload_n 0, 1) := by decide +kernel
theorem dX8_weaveOrders_33 : decode cX8_weaveOrders 33 = .ok (.getfield 64, 3) := by decide +kernel
theorem dX8_weaveOrders_36 : decode cX8_weaveOrders 36 = .ok (.getfield 245, 3) := by decide +kernel
theorem dX8_weaveOrders_39 : decode cX8_weaveOrders 39 = .ok (.ishl, 1) := by decide +kernel
theorem dX8_weaveOrders_40 : decode cX8_weaveOrders 40 = .ok (.istore_n 2, 1) := by decide +kernel
theorem dX8_weaveOrders_41 : decode cX8_weaveOrders 41 = .ok (.iconst 0, 1) := by decide +kernel
theorem dX8_weaveOrders_42 : decode cX8_weaveOrders 42 = .ok (.istore_n 3, 1) := by decide +kernel
theorem dX8_weaveOrders_43 : decode cX8_weaveOrders 43 = .ok (.iload_n 3, 1) := by decide +kernel
theorem dX8_weaveOrders_44 : decode cX8_weaveOrders 44 = .ok (.iload_n 2, 1) := by decide +kernel
theorem dX8_weaveOrders_45 : decode cX8_weaveOrders 45 = .ok (.if_icmp .ge 46, 3) := by decide +kernel
theorem dX8_weaveOrders_48 : decode cX8_weaveOrders 48 = .ok (.aload_n 0, 1) := by decide +kernel
theorem dX8_weaveOrders_49 : decode cX8_weaveOrders 49 = .ok (.getfield 64, 3) := by decide +kernel
theorem dX8_weaveOrders_52 : decode cX8_weaveOrders 52 = .ok (.iload_n 3, 1) := by decide +kernel
theorem dX8_weaveOrders_53 : decode cX8_weaveOrders 53 = .ok (.invokevirtual 248, 3) := by decide +kernel
theorem dX8_weaveOrders_56 : decode cX8_weaveOrders 56 = .ok (.ifCond .eq 29, 3) := by decide +kernel
theorem dX8_weaveOrders_59 : decode cX8_weaveOrders 59 = .ok (.aload_n 0, 1) := by decide +kernel
theorem dX8_weaveOrders_60 : decode cX8_weaveOrders 60 = .ok (.getfield 38, 3) := by decide +kernel
theorem dX8_weaveOrders_63 : decode cX8_weaveOrders 63 = .ok (.aload_n 0, 1) := by decide +kernel
theorem dX8_weaveOrders_64 : decode cX8_weaveOrders 64 = .ok (.getfield 14, 3) := by decide +kernel
theorem dX8_weaveOrders_67 : decode cX8_weaveOrders 67 = .ok (.iload_n 1, 1) := by decide +kernel
theorem dX8_weaveOrders_68 : decode cX8_weaveOrders 68 = .ok (.invokevirtual 251, 3) := by decide +kernel
theorem dX8_weaveOrders_71 : decode cX8_weaveOrders 71 = .ok (.aload_n 0, 1) := by decide +kernel
theorem dX8_weaveOrders_72 : decode cX8_weaveOrders 72 = .ok (.getfield 64, 3) := by decide +kernel
theorem dX8_weaveOrders_75 : decode cX8_weaveOrders 75 = .ok (.iload_n 3, 1) := by decide +kernel
theorem dX8_weaveOrders_76 : decode cX8_weaveOrders 76 = .ok (.aload_n 0, 1) := by decide +kernel
theorem dX8_weaveOrders_77 : decode cX8_weaveOrders 77 = .ok (.iload_n 1, 1) := by decide +kernel
theorem dX8_weaveOrders_78 : decode cX8_weaveOrders 78 = .ok (.iload_n 3, 1) := by decide +kernel
theorem dX8_weaveOrders_79 : decode cX8_weaveOrders 79 = .ok (.invokevirtual 255, 3) := by decide +kernel
theorem dX8_weaveOrders_82 : decode cX8_weaveOrders 82 = .ok (.invokevirtual 258, 3) := by decide +kernel
theorem dX8_weaveOrders_85 : decode cX8_weaveOrders 85 = .ok (.iinc 3 1, 3) := by decide +kernel
theorem dX8_weaveOrders_88 : decode cX8_weaveOrders 88 = .ok (.goto (-45), 3) := by decide +kernel
theorem dX8_weaveOrders_91 : decode cX8_weaveOrders 91 = .ok (.return_, 1) := by decide +kernel
theorem dX8_spentByOrder_0 : decode cX8_spentByOrder 0 = .ok (.iconst 0, 1) := by decide +kernel
theorem dX8_spentByOrder_1 : decode cX8_spentByOrder 1 = .ok (.istore_n 3, 1) := by decide +kernel
theorem dX8_spentByOrder_2 : decode cX8_spentByOrder 2 = .ok (.iconst 0, 1) := by decide +kernel
theorem dX8_spentByOrder_3 : decode cX8_spentByOrder 3 = .ok (.istore 4, 2) := by decide +kernel
theorem dX8_spentByOrder_5 : decode cX8_spentByOrder 5 = .ok (.iconst 0, 1) := by decide +kernel
theorem dX8_spentByOrder_6 : decode cX8_spentByOrder 6 = .ok (.istore 5, 2) := by decide +kernel
theorem dX8_spentByOrder_8 : decode cX8_spentByOrder 8 = .ok (.iconst 0, 1) := by decide +kernel
theorem dX8_spentByOrder_9 : decode cX8_spentByOrder 9 = .ok (.istore 6, 2) := by decide +kernel
theorem dX8_spentByOrder_11 : decode cX8_spentByOrder 11 = .ok (.iload 6, 2) := by decide +kernel
theorem dX8_spentByOrder_13 : decode cX8_spentByOrder 13 = .ok (.aload_n 0, 1) := by decide +kernel
theorem dX8_spentByOrder_14 : decode cX8_spentByOrder 14 = .ok (.getfield 64, 3) := by decide +kernel
theorem dX8_spentByOrder_17 : decode cX8_spentByOrder 17 = .ok (.getfield 245, 3) := by decide +kernel
theorem dX8_spentByOrder_20 : decode cX8_spentByOrder 20 = .ok (.if_icmp .ge 91, 3) := by decide +kernel
theorem dX8_spentByOrder_23 : decode cX8_spentByOrder 23 = .ok (.aload_n 0, 1) := by decide +kernel
theorem dX8_spentByOrder_24 : decode cX8_spentByOrder 24 = .ok (.getfield 64, 3) := by decide +kernel
theorem dX8_spentByOrder_27 : decode cX8_spentByOrder 27 = .ok (.iload_n 2, 1) := by decide +kernel
theorem dX8_spentByOrder_28 : decode cX8_spentByOrder 28 = .ok (.iload 6, 2) := by decide +kernel
theorem dX8_spentByOrder_30 : decode cX8_spentByOrder 30 = .ok (.invokevirtual 261, 3) := by decide +kernel
theorem dX8_spentByOrder_33 : decode cX8_spentByOrder 33 = .ok (.istore 7, 2) := by decide +kernel
theorem dX8_spentByOrder_35 : decode cX8_spentByOrder 35 = .ok (.iload 7, 2) := by decide +kernel
theorem dX8_spentByOrder_37 : decode cX8_spentByOrder 37 = .ok (.ifCond .eq 18, 3) := by decide +kernel
theorem dX8_spentByOrder_40 : decode cX8_spentByOrder 40 = .ok (.aload_n 0, 1) := by decide +kernel
theorem dX8_spentByOrder_41 : decode cX8_spentByOrder 41 = .ok (.getfield 47, 3) := by decide +kernel
theorem dX8_spentByOrder_44 : decode cX8_spentByOrder 44 = .ok (.iload 4, 2) := by decide +kernel
theorem dX8_spentByOrder_46 : decode cX8_spentByOrder 46 = .ok (.iinc 4 1, 3) := by decide +kernel
theorem dX8_spentByOrder_49 : decode cX8_spentByOrder 49 = .ok (.invokevirtual 228, 3) := by decide +kernel
theorem dX8_spentByOrder_52 : decode cX8_spentByOrder 52 = .ok (.goto 15, 3) := by decide +kernel
theorem dX8_spentByOrder_55 : decode cX8_spentByOrder 55 = .ok (.aload_n 0, 1) := by decide +kernel
theorem dX8_spentByOrder_56 : decode cX8_spentByOrder 56 = .ok (.getfield 51, 3) := by decide +kernel
theorem dX8_spentByOrder_59 : decode cX8_spentByOrder 59 = .ok (.iload 5, 2) := by decide +kernel
theorem dX8_spentByOrder_61 : decode cX8_spentByOrder 61 = .ok (.iinc 5 1, 3) := by decide +kernel
theorem dX8_spentByOrder_64 : decode cX8_spentByOrder 64 = .ok (.invokevirtual 228, 3) := by decide +kernel
theorem dX8_spentByOrder_67 : decode cX8_spentByOrder 67 = .ok (.istore 8, 2) := by decide +kernel
theorem dX8_spentByOrder_69 : decode cX8_spentByOrder 69 = .ok (.aload_n 0, 1) := by decide +kernel
theorem dX8_spentByOrder_70 : decode cX8_spentByOrder 70 = .ok (.getfield 38, 3) := by decide +kernel
theorem dX8_spentByOrder_73 : decode cX8_spentByOrder 73 = .ok (.iload_n 1, 1) := by decide +kernel
theorem dX8_spentByOrder_74 : decode cX8_spentByOrder 74 = .ok (.iload 7, 2) := by decide +kernel
theorem dX8_spentByOrder_76 : decode cX8_spentByOrder 76 = .ok (.aload_n 0, 1) := by decide +kernel
theorem dX8_spentByOrder_77 : decode cX8_spentByOrder 77 = .ok (.getfield 21, 3) := by decide +kernel
theorem dX8_spentByOrder_80 : decode cX8_spentByOrder 80 = .ok (.iload 8, 2) := by decide +kernel
theorem dX8_spentByOrder_82 : decode cX8_spentByOrder 82 = .ok (.invokevirtual 264, 3) := by decide +kernel
theorem dX8_spentByOrder_85 : decode cX8_spentByOrder 85 = .ok (.invokevirtual 198, 3) := by decide +kernel
theorem dX8_spentByOrder_88 : decode cX8_spentByOrder 88 = .ok (.istore 9, 2) := by decide +kernel
theorem dX8_spentByOrder_90 : decode cX8_spentByOrder 90 = .ok (.iload 9, 2) := by decide +kernel
theorem dX8_spentByOrder_92 : decode cX8_spentByOrder 92 = .ok (.ldc 202, 2) := by decide +kernel
theorem dX8_spentByOrder_94 : decode cX8_spentByOrder 94 = .ok (.if_icmp .ne 6, 3) := by decide +kernel
theorem dX8_spentByOrder_97 : decode cX8_spentByOrder 97 = .ok (.ldc 202, 2) := by decide +kernel
theorem dX8_spentByOrder_99 : decode cX8_spentByOrder 99 = .ok (.ireturn, 1) := by decide +kernel
theorem dX8_spentByOrder_100 : decode cX8_spentByOrder 100 = .ok (.iload_n 3, 1) := by decide +kernel
theorem dX8_spentByOrder_101 : decode cX8_spentByOrder 101 = .ok (.iload 9, 2) := by decide +kernel
theorem dX8_spentByOrder_103 : decode cX8_spentByOrder 103 = .ok (.iadd, 1) := by decide +kernel
theorem dX8_spentByOrder_104 : decode cX8_spentByOrder 104 = .ok (.istore_n 3, 1) := by decide +kernel
theorem dX8_spentByOrder_105 : decode cX8_spentByOrder 105 = .ok (.iinc 6 1, 3) := by decide +kernel
theorem dX8_spentByOrder_108 : decode cX8_spentByOrder 108 = .ok (.goto (-97), 3) := by decide +kernel
theorem dX8_spentByOrder_111 : decode cX8_spentByOrder 111 = .ok (.iload_n 3, 1) := by decide +kernel
theorem dX8_spentByOrder_112 : decode cX8_spentByOrder 112 = .ok (.ireturn, 1) := by decide +kernel
theorem dX8_best_0 : decode cX8_best 0 = .ok (.aload_n 0, 1) := by decide +kernel
theorem dX8_best_1 : decode cX8_best 1 = .ok (.getfield 14, 3) := by decide +kernel
theorem dX8_best_4 : decode cX8_best 4 = .ok (.iload_n 1, 1) := by decide +kernel
theorem dX8_best_5 : decode cX8_best 5 = .ok (.invokevirtual 79, 3) := by decide +kernel
theorem dX8_best_8 : decode cX8_best 8 = .ok (.ifCond .eq 8, 3) := by decide +kernel
theorem dX8_best_11 : decode cX8_best 11 = .ok (.iload_n 2, 1) := by decide +kernel
theorem dX8_best_12 : decode cX8_best 12 = .ok (.iconst (-1), 1) := by decide +kernel
theorem dX8_best_13 : decode cX8_best 13 = .ok (.if_icmp .ge 6, 3) := by decide +kernel
theorem dX8_best_16 : decode cX8_best 16 = .ok (.ldc 186, 2) := by decide +kernel
theorem dX8_best_18 : decode cX8_best 18 = .ok (.ireturn, 1) := by decide +kernel
theorem dX8_best_19 : decode cX8_best 19 = .ok (.aload_n 0, 1) := by decide +kernel
theorem dX8_best_20 : decode cX8_best 20 = .ok (.iload_n 1, 1) := by decide +kernel
theorem dX8_best_21 : decode cX8_best 21 = .ok (.invokevirtual 235, 3) := by decide +kernel
theorem dX8_best_24 : decode cX8_best 24 = .ok (.aload_n 0, 1) := by decide +kernel
theorem dX8_best_25 : decode cX8_best 25 = .ok (.getfield 64, 3) := by decide +kernel
theorem dX8_best_28 : decode cX8_best 28 = .ok (.getfield 238, 3) := by decide +kernel
theorem dX8_best_31 : decode cX8_best 31 = .ok (.ifCond .eq 14, 3) := by decide +kernel
theorem dX8_best_34 : decode cX8_best 34 = .ok (.iload_n 2, 1) := by decide +kernel
theorem dX8_best_35 : decode cX8_best 35 = .ok (.aload_n 0, 1) := by decide +kernel
theorem dX8_best_36 : decode cX8_best 36 = .ok (.getfield 64, 3) := by decide +kernel
theorem dX8_best_39 : decode cX8_best 39 = .ok (.getfield 245, 3) := by decide +kernel
theorem dX8_best_42 : decode cX8_best 42 = .ok (.if_icmp .lt 6, 3) := by decide +kernel
theorem dX8_best_45 : decode cX8_best 45 = .ok (.ldc 194, 2) := by decide +kernel
theorem dX8_best_47 : decode cX8_best 47 = .ok (.ireturn, 1) := by decide +kernel
theorem dX8_best_48 : decode cX8_best 48 = .ok (.iload_n 2, 1) := by decide +kernel
theorem dX8_best_49 : decode cX8_best 49 = .ok (.iconst (-1), 1) := by decide +kernel
theorem dX8_best_50 : decode cX8_best 50 = .ok (.if_icmp .ne 13, 3) := by decide +kernel
theorem dX8_best_53 : decode cX8_best 53 = .ok (.aload_n 0, 1) := by decide +kernel
theorem dX8_best_54 : decode cX8_best 54 = .ok (.getfield 64, 3) := by decide +kernel
theorem dX8_best_57 : decode cX8_best 57 = .ok (.getfield 267, 3) := by decide +kernel
theorem dX8_best_60 : decode cX8_best 60 = .ok (.goto 8, 3) := by decide +kernel
theorem dX8_best_63 : decode cX8_best 63 = .ok (.aload_n 0, 1) := by decide +kernel
theorem dX8_best_64 : decode cX8_best 64 = .ok (.iload_n 2, 1) := by decide +kernel
theorem dX8_best_65 : decode cX8_best 65 = .ok (.invokevirtual 270, 3) := by decide +kernel
theorem dX8_best_68 : decode cX8_best 68 = .ok (.ireturn, 1) := by decide +kernel
theorem dX8_boatOfBest_0 : decode cX8_boatOfBest 0 = .ok (.aload_n 0, 1) := by decide +kernel
theorem dX8_boatOfBest_1 : decode cX8_boatOfBest 1 = .ok (.getfield 64, 3) := by decide +kernel
theorem dX8_boatOfBest_4 : decode cX8_boatOfBest 4 = .ok (.getfield 273, 3) := by decide +kernel
theorem dX8_boatOfBest_7 : decode cX8_boatOfBest 7 = .ok (.istore_n 2, 1) := by decide +kernel
theorem dX8_boatOfBest_8 : decode cX8_boatOfBest 8 = .ok (.iconst 0, 1) := by decide +kernel
theorem dX8_boatOfBest_9 : decode cX8_boatOfBest 9 = .ok (.istore_n 3, 1) := by decide +kernel
theorem dX8_boatOfBest_10 : decode cX8_boatOfBest 10 = .ok (.iconst 0, 1) := by decide +kernel
theorem dX8_boatOfBest_11 : decode cX8_boatOfBest 11 = .ok (.istore 4, 2) := by decide +kernel
theorem dX8_boatOfBest_13 : decode cX8_boatOfBest 13 = .ok (.iload 4, 2) := by decide +kernel
theorem dX8_boatOfBest_15 : decode cX8_boatOfBest 15 = .ok (.iload_n 1, 1) := by decide +kernel
theorem dX8_boatOfBest_16 : decode cX8_boatOfBest 16 = .ok (.if_icmp .ge 25, 3) := by decide +kernel
theorem dX8_boatOfBest_19 : decode cX8_boatOfBest 19 = .ok (.aload_n 0, 1) := by decide +kernel
theorem dX8_boatOfBest_20 : decode cX8_boatOfBest 20 = .ok (.getfield 64, 3) := by decide +kernel
theorem dX8_boatOfBest_23 : decode cX8_boatOfBest 23 = .ok (.iload_n 2, 1) := by decide +kernel
theorem dX8_boatOfBest_24 : decode cX8_boatOfBest 24 = .ok (.iload 4, 2) := by decide +kernel
theorem dX8_boatOfBest_26 : decode cX8_boatOfBest 26 = .ok (.invokevirtual 261, 3) := by decide +kernel
theorem dX8_boatOfBest_29 : decode cX8_boatOfBest 29 = .ok (.ifCond .eq 6, 3) := by decide +kernel
theorem dX8_boatOfBest_32 : decode cX8_boatOfBest 32 = .ok (.iinc 3 1, 3) := by decide +kernel
theorem dX8_boatOfBest_35 : decode cX8_boatOfBest 35 = .ok (.iinc 4 1, 3) := by decide +kernel
theorem dX8_boatOfBest_38 : decode cX8_boatOfBest 38 = .ok (.goto (-25), 3) := by decide +kernel
theorem dX8_boatOfBest_41 : decode cX8_boatOfBest 41 = .ok (.aload_n 0, 1) := by decide +kernel
theorem dX8_boatOfBest_42 : decode cX8_boatOfBest 42 = .ok (.getfield 64, 3) := by decide +kernel
theorem dX8_boatOfBest_45 : decode cX8_boatOfBest 45 = .ok (.iload_n 2, 1) := by decide +kernel
theorem dX8_boatOfBest_46 : decode cX8_boatOfBest 46 = .ok (.iload_n 1, 1) := by decide +kernel
theorem dX8_boatOfBest_47 : decode cX8_boatOfBest 47 = .ok (.invokevirtual 261, 3) := by decide +kernel
theorem dX8_boatOfBest_50 : decode cX8_boatOfBest 50 = .ok (.ifCond .eq 14, 3) := by decide +kernel
theorem dX8_boatOfBest_53 : decode cX8_boatOfBest 53 = .ok (.aload_n 0, 1) := by decide +kernel
theorem dX8_boatOfBest_54 : decode cX8_boatOfBest 54 = .ok (.getfield 47, 3) := by decide +kernel
theorem dX8_boatOfBest_57 : decode cX8_boatOfBest 57 = .ok (.iload_n 3, 1) := by decide +kernel
theorem dX8_boatOfBest_58 : decode cX8_boatOfBest 58 = .ok (.invokevirtual 228, 3) := by decide +kernel
theorem dX8_boatOfBest_61 : decode cX8_boatOfBest 61 = .ok (.goto 13, 3) := by decide +kernel
theorem dX8_boatOfBest_64 : decode cX8_boatOfBest 64 = .ok (.aload_n 0, 1) := by decide +kernel
theorem dX8_boatOfBest_65 : decode cX8_boatOfBest 65 = .ok (.getfield 51, 3) := by decide +kernel
theorem dX8_boatOfBest_68 : decode cX8_boatOfBest 68 = .ok (.iload_n 1, 1) := by decide +kernel
theorem dX8_boatOfBest_69 : decode cX8_boatOfBest 69 = .ok (.iload_n 3, 1) := by decide +kernel
theorem dX8_boatOfBest_70 : decode cX8_boatOfBest 70 = .ok (.isub, 1) := by decide +kernel
theorem dX8_boatOfBest_71 : decode cX8_boatOfBest 71 = .ok (.invokevirtual 228, 3) := by decide +kernel
theorem dX8_boatOfBest_74 : decode cX8_boatOfBest 74 = .ok (.ireturn, 1) := by decide +kernel
theorem dX8_ruled_0 : decode cX8_ruled 0 = .ok (.aload_n 0, 1) := by decide +kernel
theorem dX8_ruled_1 : decode cX8_ruled 1 = .ok (.getfield 14, 3) := by decide +kernel
theorem dX8_ruled_4 : decode cX8_ruled 4 = .ok (.iload_n 1, 1) := by decide +kernel
theorem dX8_ruled_5 : decode cX8_ruled 5 = .ok (.invokevirtual 79, 3) := by decide +kernel
theorem dX8_ruled_8 : decode cX8_ruled 8 = .ok (.ifCond .eq 19, 3) := by decide +kernel
theorem dX8_ruled_11 : decode cX8_ruled 11 = .ok (.iload_n 2, 1) := by decide +kernel
theorem dX8_ruled_12 : decode cX8_ruled 12 = .ok (.invokestatic 276, 3) := by decide +kernel
theorem dX8_ruled_15 : decode cX8_ruled 15 = .ok (.ifCond .eq 12, 3) := by decide +kernel
theorem dX8_ruled_18 : decode cX8_ruled 18 = .ok (.iload_n 3, 1) := by decide +kernel
theorem dX8_ruled_19 : decode cX8_ruled 19 = .ok (.ifCond .lt 8, 3) := by decide +kernel
theorem dX8_ruled_22 : decode cX8_ruled 22 = .ok (.iload_n 3, 1) := by decide +kernel
theorem dX8_ruled_23 : decode cX8_ruled 23 = .ok (.iconst 2, 1) := by decide +kernel
theorem dX8_ruled_24 : decode cX8_ruled 24 = .ok (.if_icmp .le 6, 3) := by decide +kernel
theorem dX8_ruled_27 : decode cX8_ruled 27 = .ok (.ldc 186, 2) := by decide +kernel
theorem dX8_ruled_29 : decode cX8_ruled 29 = .ok (.ireturn, 1) := by decide +kernel
theorem dX8_ruled_30 : decode cX8_ruled 30 = .ok (.aload_n 0, 1) := by decide +kernel
theorem dX8_ruled_31 : decode cX8_ruled 31 = .ok (.iload_n 1, 1) := by decide +kernel
theorem dX8_ruled_32 : decode cX8_ruled 32 = .ok (.iload_n 2, 1) := by decide +kernel
theorem dX8_ruled_33 : decode cX8_ruled 33 = .ok (.invokevirtual 279, 3) := by decide +kernel
theorem dX8_ruled_36 : decode cX8_ruled 36 = .ok (.iload_n 3, 1) := by decide +kernel
theorem dX8_ruled_37 : decode cX8_ruled 37 = .ok (.lookupswitch 43 #[(0, 27), (1, 35)], 27) := by decide +kernel
theorem dX8_ruled_64 : decode cX8_ruled 64 = .ok (.aload_n 0, 1) := by decide +kernel
theorem dX8_ruled_65 : decode cX8_ruled 65 = .ok (.getfield 57, 3) := by decide +kernel
theorem dX8_ruled_68 : decode cX8_ruled 68 = .ok (.getfield 282, 3) := by decide +kernel
theorem dX8_ruled_71 : decode cX8_ruled 71 = .ok (.ireturn, 1) := by decide +kernel
theorem dX8_ruled_72 : decode cX8_ruled 72 = .ok (.aload_n 0, 1) := by decide +kernel
theorem dX8_ruled_73 : decode cX8_ruled 73 = .ok (.getfield 57, 3) := by decide +kernel
theorem dX8_ruled_76 : decode cX8_ruled 76 = .ok (.invokevirtual 285, 3) := by decide +kernel
theorem dX8_ruled_79 : decode cX8_ruled 79 = .ok (.ireturn, 1) := by decide +kernel
theorem dX8_ruled_80 : decode cX8_ruled 80 = .ok (.aload_n 0, 1) := by decide +kernel
theorem dX8_ruled_81 : decode cX8_ruled 81 = .ok (.getfield 38, 3) := by decide +kernel
theorem dX8_ruled_84 : decode cX8_ruled 84 = .ok (.getfield 288, 3) := by decide +kernel
theorem dX8_ruled_87 : decode cX8_ruled 87 = .ok (.iload_n 1, 1) := by decide +kernel
theorem dX8_ruled_88 : decode cX8_ruled 88 = .ok (.baload, 1) := by decide +kernel
theorem dX8_ruled_89 : decode cX8_ruled 89 = .ok (.ifCond .eq 7, 3) := by decide +kernel
theorem dX8_ruled_92 : decode cX8_ruled 92 = .ok (.iconst 1, 1) := by decide +kernel
theorem dX8_ruled_93 : decode cX8_ruled 93 = .ok (.goto 4, 3) := by decide +kernel
theorem dX8_ruled_96 : decode cX8_ruled 96 = .ok (.iconst 0, 1) := by decide +kernel
theorem dX8_ruled_97 : decode cX8_ruled 97 = .ok (.ireturn, 1) := by decide +kernel
theorem dX8_isRule_0 : decode cX8_isRule 0 = .ok (.iload_n 0, 1) := by decide +kernel
theorem dX8_isRule_1 : decode cX8_isRule 1 = .ok (.ifCond .lt 12, 3) := by decide +kernel
theorem dX8_isRule_4 : decode cX8_isRule 4 = .ok (.iload_n 0, 1) := by decide +kernel
theorem dX8_isRule_5 : decode cX8_isRule 5 = .ok (.iconst 4, 1) := by decide +kernel
theorem dX8_isRule_6 : decode cX8_isRule 6 = .ok (.if_icmp .ge 7, 3) := by decide +kernel
theorem dX8_isRule_9 : decode cX8_isRule 9 = .ok (.iconst 1, 1) := by decide +kernel
theorem dX8_isRule_10 : decode cX8_isRule 10 = .ok (.goto 4, 3) := by decide +kernel
theorem dX8_isRule_13 : decode cX8_isRule 13 = .ok (.iconst 0, 1) := by decide +kernel
theorem dX8_isRule_14 : decode cX8_isRule 14 = .ok (.ireturn, 1) := by decide +kernel
theorem dX8_runInThought_0 : decode cX8_runInThought 0 = .ok (.aload_n 0, 1) := by decide +kernel
theorem dX8_runInThought_1 : decode cX8_runInThought 1 = .ok (.iload_n 1, 1) := by decide +kernel
theorem dX8_runInThought_2 : decode cX8_runInThought 2 = .ok (.invokevirtual 224, 3) := by decide +kernel
theorem dX8_runInThought_5 : decode cX8_runInThought 5 = .ok (.aload_n 0, 1) := by decide +kernel
theorem dX8_runInThought_6 : decode cX8_runInThought 6 = .ok (.getfield 38, 3) := by decide +kernel
theorem dX8_runInThought_9 : decode cX8_runInThought 9 = .ok (.aload_n 0, 1) := by decide +kernel
theorem dX8_runInThought_10 : decode cX8_runInThought 10 = .ok (.getfield 14, 3) := by decide +kernel
theorem dX8_runInThought_13 : decode cX8_runInThought 13 = .ok (.invokevirtual 210, 3) := by decide +kernel
theorem dX8_runInThought_16 : decode cX8_runInThought 16 = .ok (.aload_n 0, 1) := by decide +kernel
theorem dX8_runInThought_17 : decode cX8_runInThought 17 = .ok (.getfield 57, 3) := by decide +kernel
theorem dX8_runInThought_20 : decode cX8_runInThought 20 = .ok (.aload_n 0, 1) := by decide +kernel
theorem dX8_runInThought_21 : decode cX8_runInThought 21 = .ok (.getfield 38, 3) := by decide +kernel
theorem dX8_runInThought_24 : decode cX8_runInThought 24 = .ok (.aload_n 0, 1) := by decide +kernel
theorem dX8_runInThought_25 : decode cX8_runInThought 25 = .ok (.getfield 21, 3) := by decide +kernel
theorem dX8_runInThought_28 : decode cX8_runInThought 28 = .ok (.aload_n 0, 1) := by decide +kernel
theorem dX8_runInThought_29 : decode cX8_runInThought 29 = .ok (.getfield 47, 3) := by decide +kernel
theorem dX8_runInThought_32 : decode cX8_runInThought 32 = .ok (.aload_n 0, 1) := by decide +kernel
theorem dX8_runInThought_33 : decode cX8_runInThought 33 = .ok (.getfield 51, 3) := by decide +kernel
theorem dX8_runInThought_36 : decode cX8_runInThought 36 = .ok (.iload_n 1, 1) := by decide +kernel
theorem dX8_runInThought_37 : decode cX8_runInThought 37 = .ok (.iload_n 2, 1) := by decide +kernel
theorem dX8_runInThought_38 : decode cX8_runInThought 38 = .ok (.invokevirtual 291, 3) := by decide +kernel
theorem dX8_runInThought_41 : decode cX8_runInThought 41 = .ok (.return_, 1) := by decide +kernel
theorem dX8_run_0 : decode cX8_run 0 = .ok (.aload_n 0, 1) := by decide +kernel
theorem dX8_run_1 : decode cX8_run 1 = .ok (.getfield 14, 3) := by decide +kernel
theorem dX8_run_4 : decode cX8_run 4 = .ok (.iload_n 1, 1) := by decide +kernel
theorem dX8_run_5 : decode cX8_run 5 = .ok (.invokevirtual 79, 3) := by decide +kernel
theorem dX8_run_8 : decode cX8_run 8 = .ok (.ifCond .eq 10, 3) := by decide +kernel
theorem dX8_run_11 : decode cX8_run 11 = .ok (.iload_n 2, 1) := by decide +kernel
theorem dX8_run_12 : decode cX8_run 12 = .ok (.invokestatic 276, 3) := by decide +kernel
theorem dX8_run_15 : decode cX8_run 15 = .ok (.ifCond .ne 5, 3) := by decide +kernel
theorem dX8_run_18 : decode cX8_run 18 = .ok (.iconst (-1), 1) := by decide +kernel
theorem dX8_run_19 : decode cX8_run 19 = .ok (.ireturn, 1) := by decide +kernel
theorem dX8_run_20 : decode cX8_run 20 = .ok (.aload_n 0, 1) := by decide +kernel
theorem dX8_run_21 : decode cX8_run 21 = .ok (.iload_n 1, 1) := by decide +kernel
theorem dX8_run_22 : decode cX8_run 22 = .ok (.invokevirtual 224, 3) := by decide +kernel
theorem dX8_run_25 : decode cX8_run 25 = .ok (.aload_n 0, 1) := by decide +kernel
theorem dX8_run_26 : decode cX8_run 26 = .ok (.getfield 57, 3) := by decide +kernel
theorem dX8_run_29 : decode cX8_run 29 = .ok (.aload_n 0, 1) := by decide +kernel
theorem dX8_run_30 : decode cX8_run 30 = .ok (.getfield 14, 3) := by decide +kernel
theorem dX8_run_33 : decode cX8_run 33 = .ok (.aload_n 0, 1) := by decide +kernel
theorem dX8_run_34 : decode cX8_run 34 = .ok (.getfield 21, 3) := by decide +kernel
theorem dX8_run_37 : decode cX8_run 37 = .ok (.aload_n 0, 1) := by decide +kernel
theorem dX8_run_38 : decode cX8_run 38 = .ok (.getfield 47, 3) := by decide +kernel
theorem dX8_run_41 : decode cX8_run 41 = .ok (.aload_n 0, 1) := by decide +kernel
theorem dX8_run_42 : decode cX8_run 42 = .ok (.getfield 51, 3) := by decide +kernel
theorem dX8_run_45 : decode cX8_run 45 = .ok (.iload_n 1, 1) := by decide +kernel
theorem dX8_run_46 : decode cX8_run 46 = .ok (.iload_n 2, 1) := by decide +kernel
theorem dX8_run_47 : decode cX8_run 47 = .ok (.invokevirtual 291, 3) := by decide +kernel
theorem dX8_run_50 : decode cX8_run 50 = .ok (.aload_n 0, 1) := by decide +kernel
theorem dX8_run_51 : decode cX8_run 51 = .ok (.aload_n 0, 1) := by decide +kernel
theorem dX8_run_52 : decode cX8_run 52 = .ok (.getfield 47, 3) := by decide +kernel
theorem dX8_run_55 : decode cX8_run 55 = .ok (.aload_n 0, 1) := by decide +kernel
theorem dX8_run_56 : decode cX8_run 56 = .ok (.getfield 57, 3) := by decide +kernel
theorem dX8_run_59 : decode cX8_run 59 = .ok (.getfield 295, 3) := by decide +kernel
theorem dX8_run_62 : decode cX8_run 62 = .ok (.invokevirtual 298, 3) := by decide +kernel
theorem dX8_run_65 : decode cX8_run 65 = .ok (.aload_n 0, 1) := by decide +kernel
theorem dX8_run_66 : decode cX8_run 66 = .ok (.aload_n 0, 1) := by decide +kernel
theorem dX8_run_67 : decode cX8_run 67 = .ok (.getfield 51, 3) := by decide +kernel
theorem dX8_run_70 : decode cX8_run 70 = .ok (.aload_n 0, 1) := by decide +kernel
theorem dX8_run_71 : decode cX8_run 71 = .ok (.getfield 57, 3) := by decide +kernel
theorem dX8_run_74 : decode cX8_run 74 = .ok (.getfield 302, 3) := by decide +kernel
theorem dX8_run_77 : decode cX8_run 77 = .ok (.invokevirtual 298, 3) := by decide +kernel
theorem dX8_run_80 : decode cX8_run 80 = .ok (.aload_n 0, 1) := by decide +kernel
theorem dX8_run_81 : decode cX8_run 81 = .ok (.getfield 57, 3) := by decide +kernel
theorem dX8_run_84 : decode cX8_run 84 = .ok (.invokevirtual 285, 3) := by decide +kernel
theorem dX8_run_87 : decode cX8_run 87 = .ok (.ireturn, 1) := by decide +kernel
theorem dX8_moveOnFirst_0 : decode cX8_moveOnFirst 0 = .ok (.iconst 0, 1) := by decide +kernel
theorem dX8_moveOnFirst_1 : decode cX8_moveOnFirst 1 = .ok (.istore_n 3, 1) := by decide +kernel
theorem dX8_moveOnFirst_2 : decode cX8_moveOnFirst 2 = .ok (.iload_n 3, 1) := by decide +kernel
theorem dX8_moveOnFirst_3 : decode cX8_moveOnFirst 3 = .ok (.iload_n 2, 1) := by decide +kernel
theorem dX8_moveOnFirst_4 : decode cX8_moveOnFirst 4 = .ok (.if_icmp .ge 22, 3) := by decide +kernel
theorem dX8_moveOnFirst_7 : decode cX8_moveOnFirst 7 = .ok (.aload_n 0, 1) := by decide +kernel
theorem dX8_moveOnFirst_8 : decode cX8_moveOnFirst 8 = .ok (.getfield 21, 3) := by decide +kernel
theorem dX8_moveOnFirst_11 : decode cX8_moveOnFirst 11 = .ok (.aload_n 1, 1) := by decide +kernel
theorem dX8_moveOnFirst_12 : decode cX8_moveOnFirst 12 = .ok (.iload_n 3, 1) := by decide +kernel
theorem dX8_moveOnFirst_13 : decode cX8_moveOnFirst 13 = .ok (.invokevirtual 228, 3) := by decide +kernel
theorem dX8_moveOnFirst_16 : decode cX8_moveOnFirst 16 = .ok (.iconst 1, 1) := by decide +kernel
theorem dX8_moveOnFirst_17 : decode cX8_moveOnFirst 17 = .ok (.invokevirtual 203, 3) := by decide +kernel
theorem dX8_moveOnFirst_20 : decode cX8_moveOnFirst 20 = .ok (.iinc 3 1, 3) := by decide +kernel
theorem dX8_moveOnFirst_23 : decode cX8_moveOnFirst 23 = .ok (.goto (-21), 3) := by decide +kernel
theorem dX8_moveOnFirst_26 : decode cX8_moveOnFirst 26 = .ok (.return_, 1) := by decide +kernel
theorem dX8_keeper_0 : decode cX8_keeper 0 = .ok (.aload_n 0, 1) := by decide +kernel
theorem dX8_keeper_1 : decode cX8_keeper 1 = .ok (.getfield 14, 3) := by decide +kernel
theorem dX8_keeper_4 : decode cX8_keeper 4 = .ok (.iload_n 1, 1) := by decide +kernel
theorem dX8_keeper_5 : decode cX8_keeper 5 = .ok (.invokevirtual 79, 3) := by decide +kernel
theorem dX8_keeper_8 : decode cX8_keeper 8 = .ok (.ifCond .ne 5, 3) := by decide +kernel
theorem dX8_keeper_11 : decode cX8_keeper 11 = .ok (.iconst (-1), 1) := by decide +kernel
theorem dX8_keeper_12 : decode cX8_keeper 12 = .ok (.ireturn, 1) := by decide +kernel
theorem dX8_keeper_13 : decode cX8_keeper 13 = .ok (.iconst 0, 1) := by decide +kernel
theorem dX8_keeper_14 : decode cX8_keeper 14 = .ok (.istore_n 2, 1) := by decide +kernel
theorem dX8_keeper_15 : decode cX8_keeper 15 = .ok (.iconst (-1), 1) := by decide +kernel
theorem dX8_keeper_16 : decode cX8_keeper 16 = .ok (.istore_n 3, 1) := by decide +kernel
theorem dX8_keeper_17 : decode cX8_keeper 17 = .ok (.iconst 0, 1) := by decide +kernel
theorem dX8_keeper_18 : decode cX8_keeper 18 = .ok (.istore 4, 2) := by decide +kernel
theorem dX8_keeper_20 : decode cX8_keeper 20 = .ok (.iconst 0, 1) := by decide +kernel
theorem dX8_keeper_21 : decode cX8_keeper 21 = .ok (.istore 5, 2) := by decide +kernel
theorem dX8_keeper_23 : decode cX8_keeper 23 = .ok (.iload 5, 2) := by decide +kernel
theorem dX8_keeper_25 : decode cX8_keeper 25 = .ok (.iconst 4, 1) := by decide +kernel
theorem dX8_keeper_26 : decode cX8_keeper 26 = .ok (.if_icmp .ge 64, 3) := by decide +kernel
theorem dX8_keeper_29 : decode cX8_keeper 29 = .ok (.aload_n 0, 1) := by decide +kernel
theorem dX8_keeper_30 : decode cX8_keeper 30 = .ok (.iload_n 1, 1) := by decide +kernel
theorem dX8_keeper_31 : decode cX8_keeper 31 = .ok (.iload 5, 2) := by decide +kernel
theorem dX8_keeper_33 : decode cX8_keeper 33 = .ok (.invokevirtual 279, 3) := by decide +kernel
theorem dX8_keeper_36 : decode cX8_keeper 36 = .ok (.aload_n 0, 1) := by decide +kernel
theorem dX8_keeper_37 : decode cX8_keeper 37 = .ok (.getfield 57, 3) := by decide +kernel
theorem dX8_keeper_40 : decode cX8_keeper 40 = .ok (.invokevirtual 285, 3) := by decide +kernel
theorem dX8_keeper_43 : decode cX8_keeper 43 = .ok (.istore 6, 2) := by decide +kernel
theorem dX8_keeper_45 : decode cX8_keeper 45 = .ok (.iload 6, 2) := by decide +kernel
theorem dX8_keeper_47 : decode cX8_keeper 47 = .ok (.iload_n 3, 1) := by decide +kernel
theorem dX8_keeper_48 : decode cX8_keeper 48 = .ok (.if_icmp .gt 21, 3) := by decide +kernel
theorem dX8_keeper_51 : decode cX8_keeper 51 = .ok (.iload 6, 2) := by decide +kernel
theorem dX8_keeper_53 : decode cX8_keeper 53 = .ok (.iload_n 3, 1) := by decide +kernel
theorem dX8_keeper_54 : decode cX8_keeper 54 = .ok (.if_icmp .ne 30, 3) := by decide +kernel
theorem dX8_keeper_57 : decode cX8_keeper 57 = .ok (.aload_n 0, 1) := by decide +kernel
theorem dX8_keeper_58 : decode cX8_keeper 58 = .ok (.getfield 57, 3) := by decide +kernel
theorem dX8_keeper_61 : decode cX8_keeper 61 = .ok (.getfield 282, 3) := by decide +kernel
theorem dX8_keeper_64 : decode cX8_keeper 64 = .ok (.iload 4, 2) := by decide +kernel
theorem dX8_keeper_66 : decode cX8_keeper 66 = .ok (.if_icmp .ge 18, 3) := by decide +kernel
theorem dX8_keeper_69 : decode cX8_keeper 69 = .ok (.iload 5, 2) := by decide +kernel
theorem dX8_keeper_71 : decode cX8_keeper 71 = .ok (.istore_n 2, 1) := by decide +kernel
theorem dX8_keeper_72 : decode cX8_keeper 72 = .ok (.iload 6, 2) := by decide +kernel
theorem dX8_keeper_74 : decode cX8_keeper 74 = .ok (.istore_n 3, 1) := by decide +kernel
theorem dX8_keeper_75 : decode cX8_keeper 75 = .ok (.aload_n 0, 1) := by decide +kernel
theorem dX8_keeper_76 : decode cX8_keeper 76 = .ok (.getfield 57, 3) := by decide +kernel
theorem dX8_keeper_79 : decode cX8_keeper 79 = .ok (.getfield 282, 3) := by decide +kernel
theorem dX8_keeper_82 : decode cX8_keeper 82 = .ok (.istore 4, 2) := by decide +kernel
theorem dX8_keeper_84 : decode cX8_keeper 84 = .ok (.iinc 5 1, 3) := by decide +kernel
theorem dX8_keeper_87 : decode cX8_keeper 87 = .ok (.goto (-64), 3) := by decide +kernel
theorem dX8_keeper_90 : decode cX8_keeper 90 = .ok (.iload_n 2, 1) := by decide +kernel
theorem dX8_keeper_91 : decode cX8_keeper 91 = .ok (.ireturn, 1) := by decide +kernel
theorem dX8_day_0 : decode cX8_day 0 = .ok (.iload_n 1, 1) := by decide +kernel
theorem dX8_day_1 : decode cX8_day 1 = .ok (.invokestatic 305, 3) := by decide +kernel
theorem dX8_day_4 : decode cX8_day 4 = .ok (.ifCond .eq 22, 3) := by decide +kernel
theorem dX8_day_7 : decode cX8_day 7 = .ok (.iload_n 2, 1) := by decide +kernel
theorem dX8_day_8 : decode cX8_day 8 = .ok (.invokestatic 305, 3) := by decide +kernel
theorem dX8_day_11 : decode cX8_day 11 = .ok (.ifCond .eq 15, 3) := by decide +kernel
theorem dX8_day_14 : decode cX8_day 14 = .ok (.aload_n 0, 1) := by decide +kernel
theorem dX8_day_15 : decode cX8_day 15 = .ok (.getfield 14, 3) := by decide +kernel
theorem dX8_day_18 : decode cX8_day 18 = .ok (.iload_n 1, 1) := by decide +kernel
theorem dX8_day_19 : decode cX8_day 19 = .ok (.iload_n 2, 1) := by decide +kernel
theorem dX8_day_20 : decode cX8_day 20 = .ok (.invokevirtual 308, 3) := by decide +kernel
theorem dX8_day_23 : decode cX8_day 23 = .ok (.goto 4, 3) := by decide +kernel
theorem dX8_day_26 : decode cX8_day 26 = .ok (.iconst (-1), 1) := by decide +kernel
theorem dX8_day_27 : decode cX8_day 27 = .ok (.ireturn, 1) := by decide +kernel
theorem dX8_isTraffic_0 : decode cX8_isTraffic 0 = .ok (.iload_n 0, 1) := by decide +kernel
theorem dX8_isTraffic_1 : decode cX8_isTraffic 1 = .ok (.ifCond .lt 12, 3) := by decide +kernel
theorem dX8_isTraffic_4 : decode cX8_isTraffic 4 = .ok (.iload_n 0, 1) := by decide +kernel
theorem dX8_isTraffic_5 : decode cX8_isTraffic 5 = .ok (.iconst 4, 1) := by decide +kernel
theorem dX8_isTraffic_6 : decode cX8_isTraffic 6 = .ok (.if_icmp .gt 7, 3) := by decide +kernel
theorem dX8_isTraffic_9 : decode cX8_isTraffic 9 = .ok (.iconst 1, 1) := by decide +kernel
theorem dX8_isTraffic_10 : decode cX8_isTraffic 10 = .ok (.goto 4, 3) := by decide +kernel
theorem dX8_isTraffic_13 : decode cX8_isTraffic 13 = .ok (.iconst 0, 1) := by decide +kernel
theorem dX8_isTraffic_14 : decode cX8_isTraffic 14 = .ok (.ireturn, 1) := by decide +kernel
theorem dX8_dry_0 : decode cX8_dry 0 = .ok (.iload_n 1, 1) := by decide +kernel
theorem dX8_dry_1 : decode cX8_dry 1 = .ok (.invokestatic 305, 3) := by decide +kernel
theorem dX8_dry_4 : decode cX8_dry 4 = .ok (.ifCond .eq 19, 3) := by decide +kernel
theorem dX8_dry_7 : decode cX8_dry 7 = .ok (.iload_n 2, 1) := by decide +kernel
theorem dX8_dry_8 : decode cX8_dry 8 = .ok (.invokestatic 305, 3) := by decide +kernel
theorem dX8_dry_11 : decode cX8_dry 11 = .ok (.ifCond .eq 12, 3) := by decide +kernel
theorem dX8_dry_14 : decode cX8_dry 14 = .ok (.iload_n 3, 1) := by decide +kernel
theorem dX8_dry_15 : decode cX8_dry 15 = .ok (.ifCond .lt 8, 3) := by decide +kernel
theorem dX8_dry_18 : decode cX8_dry 18 = .ok (.iload_n 3, 1) := by decide +kernel
theorem dX8_dry_19 : decode cX8_dry 19 = .ok (.iconst 1, 1) := by decide +kernel
theorem dX8_dry_20 : decode cX8_dry 20 = .ok (.if_icmp .le 5, 3) := by decide +kernel
theorem dX8_dry_23 : decode cX8_dry 23 = .ok (.iconst (-1), 1) := by decide +kernel
theorem dX8_dry_24 : decode cX8_dry 24 = .ok (.ireturn, 1) := by decide +kernel
theorem dX8_dry_25 : decode cX8_dry 25 = .ok (.aload_n 0, 1) := by decide +kernel
theorem dX8_dry_26 : decode cX8_dry 26 = .ok (.getfield 38, 3) := by decide +kernel
theorem dX8_dry_29 : decode cX8_dry 29 = .ok (.aload_n 0, 1) := by decide +kernel
theorem dX8_dry_30 : decode cX8_dry 30 = .ok (.getfield 14, 3) := by decide +kernel
theorem dX8_dry_33 : decode cX8_dry 33 = .ok (.invokevirtual 210, 3) := by decide +kernel
theorem dX8_dry_36 : decode cX8_dry 36 = .ok (.iconst 0, 1) := by decide +kernel
theorem dX8_dry_37 : decode cX8_dry 37 = .ok (.istore 4, 2) := by decide +kernel
theorem dX8_dry_39 : decode cX8_dry 39 = .ok (.iload 4, 2) := by decide +kernel
theorem dX8_dry_41 : decode cX8_dry 41 = .ok (.bipush 40, 2) := by decide +kernel
theorem dX8_dry_43 : decode cX8_dry 43 = .ok (.if_icmp .gt 49, 3) := by decide +kernel
theorem dX8_dry_46 : decode cX8_dry 46 = .ok (.aload_n 0, 1) := by decide +kernel
theorem dX8_dry_47 : decode cX8_dry 47 = .ok (.getfield 38, 3) := by decide +kernel
theorem dX8_dry_50 : decode cX8_dry 50 = .ok (.iload_n 1, 1) := by decide +kernel
theorem dX8_dry_51 : decode cX8_dry 51 = .ok (.iload_n 2, 1) := by decide +kernel
theorem dX8_dry_52 : decode cX8_dry 52 = .ok (.invokevirtual 308, 3) := by decide +kernel
theorem dX8_dry_55 : decode cX8_dry 55 = .ok (.pop, 1) := by decide +kernel
theorem dX8_dry_56 : decode cX8_dry 56 = .ok (.aload_n 0, 1) := by decide +kernel
theorem dX8_dry_57 : decode cX8_dry 57 = .ok (.getfield 38, 3) := by decide +kernel
theorem dX8_dry_60 : decode cX8_dry 60 = .ok (.getfield 311, 3) := by decide +kernel
theorem dX8_dry_63 : decode cX8_dry 63 = .ok (.ifCond .eq 23, 3) := by decide +kernel
theorem dX8_dry_66 : decode cX8_dry 66 = .ok (.iload_n 3, 1) := by decide +kernel
theorem dX8_dry_67 : decode cX8_dry 67 = .ok (.ifCond .ne 8, 3) := by decide +kernel
theorem dX8_dry_70 : decode cX8_dry 70 = .ok (.iload 4, 2) := by decide +kernel
theorem dX8_dry_72 : decode cX8_dry 72 = .ok (.goto 13, 3) := by decide +kernel
theorem dX8_dry_75 : decode cX8_dry 75 = .ok (.aload_n 0, 1) := by decide +kernel
theorem dX8_dry_76 : decode cX8_dry 76 = .ok (.getfield 38, 3) := by decide +kernel
theorem dX8_dry_79 : decode cX8_dry 79 = .ok (.getfield 216, 3) := by decide +kernel
theorem dX8_dry_82 : decode cX8_dry 82 = .ok (.getfield 315, 3) := by decide +kernel
theorem dX8_dry_85 : decode cX8_dry 85 = .ok (.ireturn, 1) := by decide +kernel
theorem dX8_dry_86 : decode cX8_dry 86 = .ok (.iinc 4 1, 3) := by decide +kernel
theorem dX8_dry_89 : decode cX8_dry 89 = .ok (.goto (-50), 3) := by decide +kernel
theorem dX8_dry_92 : decode cX8_dry 92 = .ok (.bipush (-2), 2) := by decide +kernel
theorem dX8_dry_94 : decode cX8_dry 94 = .ok (.ireturn, 1) := by decide +kernel
theorem dX8_pond_0 : decode cX8_pond 0 = .ok (.iload_n 1, 1) := by decide +kernel
theorem dX8_pond_1 : decode cX8_pond 1 = .ok (.invokestatic 305, 3) := by decide +kernel
theorem dX8_pond_4 : decode cX8_pond 4 = .ok (.ifCond .eq 21, 3) := by decide +kernel
theorem dX8_pond_7 : decode cX8_pond 7 = .ok (.iload_n 2, 1) := by decide +kernel
theorem dX8_pond_8 : decode cX8_pond 8 = .ok (.invokestatic 305, 3) := by decide +kernel
theorem dX8_pond_11 : decode cX8_pond 11 = .ok (.ifCond .eq 14, 3) := by decide +kernel
theorem dX8_pond_14 : decode cX8_pond 14 = .ok (.iload_n 3, 1) := by decide +kernel
theorem dX8_pond_15 : decode cX8_pond 15 = .ok (.iconst 1, 1) := by decide +kernel
theorem dX8_pond_16 : decode cX8_pond 16 = .ok (.if_icmp .lt 9, 3) := by decide +kernel
theorem dX8_pond_19 : decode cX8_pond 19 = .ok (.iload_n 3, 1) := by decide +kernel
theorem dX8_pond_20 : decode cX8_pond 20 = .ok (.bipush 20, 2) := by decide +kernel
theorem dX8_pond_22 : decode cX8_pond 22 = .ok (.if_icmp .le 5, 3) := by decide +kernel
theorem dX8_pond_25 : decode cX8_pond 25 = .ok (.iconst (-1), 1) := by decide +kernel
theorem dX8_pond_26 : decode cX8_pond 26 = .ok (.ireturn, 1) := by decide +kernel
theorem dX8_pond_27 : decode cX8_pond 27 = .ok (.aload_n 0, 1) := by decide +kernel
theorem dX8_pond_28 : decode cX8_pond 28 = .ok (.getfield 38, 3) := by decide +kernel
theorem dX8_pond_31 : decode cX8_pond 31 = .ok (.aload_n 0, 1) := by decide +kernel
theorem dX8_pond_32 : decode cX8_pond 32 = .ok (.getfield 14, 3) := by decide +kernel
theorem dX8_pond_35 : decode cX8_pond 35 = .ok (.invokevirtual 210, 3) := by decide +kernel
theorem dX8_pond_38 : decode cX8_pond 38 = .ok (.aload_n 0, 1) := by decide +kernel
theorem dX8_pond_39 : decode cX8_pond 39 = .ok (.iload_n 1, 1) := by decide +kernel
theorem dX8_pond_40 : decode cX8_pond 40 = .ok (.iload_n 2, 1) := by decide +kernel
theorem dX8_pond_41 : decode cX8_pond 41 = .ok (.iload_n 3, 1) := by decide +kernel
theorem dX8_pond_42 : decode cX8_pond 42 = .ok (.invokevirtual 318, 3) := by decide +kernel
theorem dX8_pond_45 : decode cX8_pond 45 = .ok (.istore 4, 2) := by decide +kernel
theorem dX8_pond_47 : decode cX8_pond 47 = .ok (.bipush (-2), 2) := by decide +kernel
theorem dX8_pond_49 : decode cX8_pond 49 = .ok (.istore 5, 2) := by decide +kernel
theorem dX8_pond_51 : decode cX8_pond 51 = .ok (.iconst 0, 1) := by decide +kernel
theorem dX8_pond_52 : decode cX8_pond 52 = .ok (.istore 6, 2) := by decide +kernel
theorem dX8_pond_54 : decode cX8_pond 54 = .ok (.iload 6, 2) := by decide +kernel
theorem dX8_pond_56 : decode cX8_pond 56 = .ok (.aload_n 0, 1) := by decide +kernel
theorem dX8_pond_57 : decode cX8_pond 57 = .ok (.getfield 14, 3) := by decide +kernel
theorem dX8_pond_60 : decode cX8_pond 60 = .ok (.getfield 72, 3) := by decide +kernel
theorem dX8_pond_63 : decode cX8_pond 63 = .ok (.if_icmp .ge 84, 3) := by decide +kernel
theorem dX8_pond_66 : decode cX8_pond 66 = .ok (.aload_n 0, 1) := by decide +kernel
theorem dX8_pond_67 : decode cX8_pond 67 = .ok (.getfield 14, 3) := by decide +kernel
theorem dX8_pond_70 : decode cX8_pond 70 = .ok (.getfield 98, 3) := by decide +kernel
theorem dX8_pond_73 : decode cX8_pond 73 = .ok (.iload 6, 2) := by decide +kernel
theorem dX8_pond_75 : decode cX8_pond 75 = .ok (.iaload, 1) := by decide +kernel
theorem dX8_pond_76 : decode cX8_pond 76 = .ok (.iconst 3, 1) := by decide +kernel
theorem dX8_pond_77 : decode cX8_pond 77 = .ok (.if_icmp .ge 64, 3) := by decide +kernel
theorem dX8_pond_80 : decode cX8_pond 80 = .ok (.aload_n 0, 1) := by decide +kernel
theorem dX8_pond_81 : decode cX8_pond 81 = .ok (.getfield 14, 3) := by decide +kernel
theorem dX8_pond_84 : decode cX8_pond 84 = .ok (.iload 6, 2) := by decide +kernel
theorem dX8_pond_86 : decode cX8_pond 86 = .ok (.invokevirtual 87, 3) := by decide +kernel
theorem dX8_pond_89 : decode cX8_pond 89 = .ok (.ifCond .eq 52, 3) := by decide +kernel
theorem dX8_pond_92 : decode cX8_pond 92 = .ok (.aload_n 0, 1) := by decide +kernel
theorem dX8_pond_93 : decode cX8_pond 93 = .ok (.getfield 38, 3) := by decide +kernel
theorem dX8_pond_96 : decode cX8_pond 96 = .ok (.aload_n 0, 1) := by decide +kernel
theorem dX8_pond_97 : decode cX8_pond 97 = .ok (.getfield 14, 3) := by decide +kernel
theorem dX8_pond_100 : decode cX8_pond 100 = .ok (.invokevirtual 210, 3) := by decide +kernel
theorem dX8_pond_103 : decode cX8_pond 103 = .ok (.aload_n 0, 1) := by decide +kernel
theorem dX8_pond_104 : decode cX8_pond 104 = .ok (.getfield 38, 3) := by decide +kernel
theorem dX8_pond_107 : decode cX8_pond 107 = .ok (.getfield 98, 3) := by decide +kernel
theorem dX8_pond_110 : decode cX8_pond 110 = .ok (.iload 6, 2) := by decide +kernel
theorem dX8_pond_112 : decode cX8_pond 112 = .ok (.dup2, 1) := by decide +kernel
theorem dX8_pond_113 : decode cX8_pond 113 = .ok (.iaload, 1) := by decide +kernel
theorem dX8_pond_114 : decode cX8_pond 114 = .ok (.iconst 1, 1) := by decide +kernel
theorem dX8_pond_115 : decode cX8_pond 115 = .ok (.iadd, 1) := by decide +kernel
theorem dX8_pond_116 : decode cX8_pond 116 = .ok (.iastore, 1) := by decide +kernel
theorem dX8_pond_117 : decode cX8_pond 117 = .ok (.aload_n 0, 1) := by decide +kernel
theorem dX8_pond_118 : decode cX8_pond 118 = .ok (.iload_n 1, 1) := by decide +kernel
theorem dX8_pond_119 : decode cX8_pond 119 = .ok (.iload_n 2, 1) := by decide +kernel
theorem dX8_pond_120 : decode cX8_pond 120 = .ok (.iload_n 3, 1) := by decide +kernel
theorem dX8_pond_121 : decode cX8_pond 121 = .ok (.invokevirtual 318, 3) := by decide +kernel
theorem dX8_pond_124 : decode cX8_pond 124 = .ok (.istore 7, 2) := by decide +kernel
theorem dX8_pond_126 : decode cX8_pond 126 = .ok (.iload 7, 2) := by decide +kernel
theorem dX8_pond_128 : decode cX8_pond 128 = .ok (.iload 4, 2) := by decide +kernel
theorem dX8_pond_130 : decode cX8_pond 130 = .ok (.if_icmp .le 11, 3) := by decide +kernel
theorem dX8_pond_133 : decode cX8_pond 133 = .ok (.iload 7, 2) := by decide +kernel
theorem dX8_pond_135 : decode cX8_pond 135 = .ok (.istore 4, 2) := by decide +kernel
theorem dX8_pond_137 : decode cX8_pond 137 = .ok (.iload 6, 2) := by decide +kernel
theorem dX8_pond_139 : decode cX8_pond 139 = .ok (.istore 5, 2) := by decide +kernel
theorem dX8_pond_141 : decode cX8_pond 141 = .ok (.iinc 6 1, 3) := by decide +kernel
theorem dX8_pond_144 : decode cX8_pond 144 = .ok (.goto (-90), 3) := by decide +kernel
theorem dX8_pond_147 : decode cX8_pond 147 = .ok (.iload 5, 2) := by decide +kernel
theorem dX8_pond_149 : decode cX8_pond 149 = .ok (.ireturn, 1) := by decide +kernel
theorem dX8_summitInThought_0 : decode cX8_summitInThought 0 = .ok (.iconst 0, 1) := by decide +kernel
theorem dX8_summitInThought_1 : decode cX8_summitInThought 1 = .ok (.istore 4, 2) := by decide +kernel
theorem dX8_summitInThought_3 : decode cX8_summitInThought 3 = .ok (.iload 4, 2) := by decide +kernel
theorem dX8_summitInThought_5 : decode cX8_summitInThought 5 = .ok (.iload_n 3, 1) := by decide +kernel
theorem dX8_summitInThought_6 : decode cX8_summitInThought 6 = .ok (.if_icmp .ge 19, 3) := by decide +kernel
theorem dX8_summitInThought_9 : decode cX8_summitInThought 9 = .ok (.aload_n 0, 1) := by decide +kernel
theorem dX8_summitInThought_10 : decode cX8_summitInThought 10 = .ok (.getfield 38, 3) := by decide +kernel
theorem dX8_summitInThought_13 : decode cX8_summitInThought 13 = .ok (.iload_n 1, 1) := by decide +kernel
theorem dX8_summitInThought_14 : decode cX8_summitInThought 14 = .ok (.iload_n 2, 1) := by decide +kernel
theorem dX8_summitInThought_15 : decode cX8_summitInThought 15 = .ok (.invokevirtual 308, 3) := by decide +kernel
theorem dX8_summitInThought_18 : decode cX8_summitInThought 18 = .ok (.pop, 1) := by decide +kernel
theorem dX8_summitInThought_19 : decode cX8_summitInThought 19 = .ok (.iinc 4 1, 3) := by decide +kernel
theorem dX8_summitInThought_22 : decode cX8_summitInThought 22 = .ok (.goto (-19), 3) := by decide +kernel
theorem dX8_summitInThought_25 : decode cX8_summitInThought 25 = .ok (.aload_n 0, 1) := by decide +kernel
theorem dX8_summitInThought_26 : decode cX8_summitInThought 26 = .ok (.getfield 38, 3) := by decide +kernel
theorem dX8_summitInThought_29 : decode cX8_summitInThought 29 = .ok (.invokevirtual 213, 3) := by decide +kernel
theorem dX8_summitInThought_32 : decode cX8_summitInThought 32 = .ok (.ireturn, 1) := by decide +kernel
theorem dX8_water_0 : decode cX8_water 0 = .ok (.aload_n 0, 1) := by decide +kernel
theorem dX8_water_1 : decode cX8_water 1 = .ok (.getfield 14, 3) := by decide +kernel
theorem dX8_water_4 : decode cX8_water 4 = .ok (.invokevirtual 322, 3) := by decide +kernel
theorem dX8_water_7 : decode cX8_water 7 = .ok (.ireturn, 1) := by decide +kernel
theorem dX8_levels_0 : decode cX8_levels 0 = .ok (.iload_n 1, 1) := by decide +kernel
theorem dX8_levels_1 : decode cX8_levels 1 = .ok (.iconst (-1), 1) := by decide +kernel
theorem dX8_levels_2 : decode cX8_levels 2 = .ok (.if_icmp .ge 5, 3) := by decide +kernel
theorem dX8_levels_5 : decode cX8_levels 5 = .ok (.iconst (-1), 1) := by decide +kernel
theorem dX8_levels_6 : decode cX8_levels 6 = .ok (.ireturn, 1) := by decide +kernel
theorem dX8_levels_7 : decode cX8_levels 7 = .ok (.iconst 0, 1) := by decide +kernel
theorem dX8_levels_8 : decode cX8_levels 8 = .ok (.istore_n 2, 1) := by decide +kernel
theorem dX8_levels_9 : decode cX8_levels 9 = .ok (.aload_n 0, 1) := by decide +kernel
theorem dX8_levels_10 : decode cX8_levels 10 = .ok (.getfield 14, 3) := by decide +kernel
theorem dX8_levels_13 : decode cX8_levels 13 = .ok (.iconst (-1), 1) := by decide +kernel
theorem dX8_levels_14 : decode cX8_levels 14 = .ok (.invokevirtual 325, 3) := by decide +kernel
theorem dX8_levels_17 : decode cX8_levels 17 = .ok (.istore_n 3, 1) := by decide +kernel
theorem dX8_levels_18 : decode cX8_levels 18 = .ok (.iload_n 3, 1) := by decide +kernel
theorem dX8_levels_19 : decode cX8_levels 19 = .ok (.ifCond .lt 31, 3) := by decide +kernel
theorem dX8_levels_22 : decode cX8_levels 22 = .ok (.iload_n 2, 1) := by decide +kernel
theorem dX8_levels_23 : decode cX8_levels 23 = .ok (.bipush 6, 2) := by decide +kernel
theorem dX8_levels_25 : decode cX8_levels 25 = .ok (.if_icmp .gt 25, 3) := by decide +kernel
theorem dX8_levels_28 : decode cX8_levels 28 = .ok (.iload_n 2, 1) := by decide +kernel
theorem dX8_levels_29 : decode cX8_levels 29 = .ok (.iload_n 1, 1) := by decide +kernel
theorem dX8_levels_30 : decode cX8_levels 30 = .ok (.if_icmp .ne 5, 3) := by decide +kernel
theorem dX8_levels_33 : decode cX8_levels 33 = .ok (.iload_n 3, 1) := by decide +kernel
theorem dX8_levels_34 : decode cX8_levels 34 = .ok (.ireturn, 1) := by decide +kernel
theorem dX8_levels_35 : decode cX8_levels 35 = .ok (.iinc 2 1, 3) := by decide +kernel
theorem dX8_levels_38 : decode cX8_levels 38 = .ok (.aload_n 0, 1) := by decide +kernel
theorem dX8_levels_39 : decode cX8_levels 39 = .ok (.getfield 14, 3) := by decide +kernel
theorem dX8_levels_42 : decode cX8_levels 42 = .ok (.iload_n 3, 1) := by decide +kernel
theorem dX8_levels_43 : decode cX8_levels 43 = .ok (.invokevirtual 325, 3) := by decide +kernel
theorem dX8_levels_46 : decode cX8_levels 46 = .ok (.istore_n 3, 1) := by decide +kernel
theorem dX8_levels_47 : decode cX8_levels 47 = .ok (.goto (-29), 3) := by decide +kernel
theorem dX8_levels_50 : decode cX8_levels 50 = .ok (.iload_n 1, 1) := by decide +kernel
theorem dX8_levels_51 : decode cX8_levels 51 = .ok (.iconst (-1), 1) := by decide +kernel
theorem dX8_levels_52 : decode cX8_levels 52 = .ok (.if_icmp .ne 7, 3) := by decide +kernel
theorem dX8_levels_55 : decode cX8_levels 55 = .ok (.iload_n 2, 1) := by decide +kernel
theorem dX8_levels_56 : decode cX8_levels 56 = .ok (.goto 5, 3) := by decide +kernel
theorem dX8_levels_59 : decode cX8_levels 59 = .ok (.bipush (-2), 2) := by decide +kernel
theorem dX8_levels_61 : decode cX8_levels 61 = .ok (.ireturn, 1) := by decide +kernel
theorem dX8_tally_0 : decode cX8_tally 0 = .ok (.iload_n 2, 1) := by decide +kernel
theorem dX8_tally_1 : decode cX8_tally 1 = .ok (.ifCond .lt 8, 3) := by decide +kernel
theorem dX8_tally_4 : decode cX8_tally 4 = .ok (.iload_n 2, 1) := by decide +kernel
theorem dX8_tally_5 : decode cX8_tally 5 = .ok (.iconst 2, 1) := by decide +kernel
theorem dX8_tally_6 : decode cX8_tally 6 = .ok (.if_icmp .le 6, 3) := by decide +kernel
theorem dX8_tally_9 : decode cX8_tally 9 = .ok (.ldc 186, 2) := by decide +kernel
theorem dX8_tally_11 : decode cX8_tally 11 = .ok (.ireturn, 1) := by decide +kernel
theorem dX8_tally_12 : decode cX8_tally 12 = .ok (.iload_n 2, 1) := by decide +kernel
theorem dX8_tally_13 : decode cX8_tally 13 = .ok (.iconst 2, 1) := by decide +kernel
theorem dX8_tally_14 : decode cX8_tally 14 = .ok (.if_icmp .ne 15, 3) := by decide +kernel
theorem dX8_tally_17 : decode cX8_tally 17 = .ok (.aload_n 0, 1) := by decide +kernel
theorem dX8_tally_18 : decode cX8_tally 18 = .ok (.getfield 14, 3) := by decide +kernel
theorem dX8_tally_21 : decode cX8_tally 21 = .ok (.getfield 328, 3) := by decide +kernel
theorem dX8_tally_24 : decode cX8_tally 24 = .ok (.iload_n 1, 1) := by decide +kernel
theorem dX8_tally_25 : decode cX8_tally 25 = .ok (.invokevirtual 332, 3) := by decide +kernel
theorem dX8_tally_28 : decode cX8_tally 28 = .ok (.ireturn, 1) := by decide +kernel
theorem dX8_tally_29 : decode cX8_tally 29 = .ok (.iload_n 1, 1) := by decide +kernel
theorem dX8_tally_30 : decode cX8_tally 30 = .ok (.iconst (-1), 1) := by decide +kernel
theorem dX8_tally_31 : decode cX8_tally 31 = .ok (.if_icmp .ne 16, 3) := by decide +kernel
theorem dX8_tally_34 : decode cX8_tally 34 = .ok (.aload_n 0, 1) := by decide +kernel
theorem dX8_tally_35 : decode cX8_tally 35 = .ok (.getfield 14, 3) := by decide +kernel
theorem dX8_tally_38 : decode cX8_tally 38 = .ok (.getfield 328, 3) := by decide +kernel
theorem dX8_tally_41 : decode cX8_tally 41 = .ok (.invokevirtual 337, 3) := by decide +kernel
theorem dX8_tally_44 : decode cX8_tally 44 = .ok (.goto 24, 3) := by decide +kernel
theorem dX8_tally_47 : decode cX8_tally 47 = .ok (.aload_n 0, 1) := by decide +kernel
theorem dX8_tally_48 : decode cX8_tally 48 = .ok (.getfield 14, 3) := by decide +kernel
theorem dX8_tally_51 : decode cX8_tally 51 = .ok (.getfield 328, 3) := by decide +kernel
theorem dX8_tally_54 : decode cX8_tally 54 = .ok (.iload_n 1, 1) := by decide +kernel
theorem dX8_tally_55 : decode cX8_tally 55 = .ok (.iload_n 2, 1) := by decide +kernel
theorem dX8_tally_56 : decode cX8_tally 56 = .ok (.iconst 1, 1) := by decide +kernel
theorem dX8_tally_57 : decode cX8_tally 57 = .ok (.if_icmp .ne 7, 3) := by decide +kernel
theorem dX8_tally_60 : decode cX8_tally 60 = .ok (.iconst 1, 1) := by decide +kernel
theorem dX8_tally_61 : decode cX8_tally 61 = .ok (.goto 4, 3) := by decide +kernel
theorem dX8_tally_64 : decode cX8_tally 64 = .ok (.iconst 0, 1) := by decide +kernel
theorem dX8_tally_65 : decode cX8_tally 65 = .ok (.invokevirtual 340, 3) := by decide +kernel
theorem dX8_tally_68 : decode cX8_tally 68 = .ok (.ireturn, 1) := by decide +kernel
theorem dX8_pays_0 : decode cX8_pays 0 = .ok (.lload_n 1, 1) := by decide +kernel
theorem dX8_pays_1 : decode cX8_pays 1 = .ok (.lload_n 3, 1) := by decide +kernel
theorem dX8_pays_2 : decode cX8_pays 2 = .ok (.lmul, 1) := by decide +kernel
theorem dX8_pays_3 : decode cX8_pays 3 = .ok (.lstore 5, 2) := by decide +kernel
theorem dX8_pays_5 : decode cX8_pays 5 = .ok (.lload_n 1, 1) := by decide +kernel
theorem dX8_pays_6 : decode cX8_pays 6 = .ok (.ldc2_w 343, 3) := by decide +kernel
theorem dX8_pays_9 : decode cX8_pays 9 = .ok (.lcmp, 1) := by decide +kernel
theorem dX8_pays_10 : decode cX8_pays 10 = .ok (.ifCond .ne 19, 3) := by decide +kernel
theorem dX8_pays_13 : decode cX8_pays 13 = .ok (.lload_n 3, 1) := by decide +kernel
theorem dX8_pays_14 : decode cX8_pays 14 = .ok (.ldc2_w 345, 3) := by decide +kernel
theorem dX8_pays_17 : decode cX8_pays 17 = .ok (.lcmp, 1) := by decide +kernel
theorem dX8_pays_18 : decode cX8_pays 18 = .ok (.ifCond .ne 7, 3) := by decide +kernel
theorem dX8_pays_21 : decode cX8_pays 21 = .ok (.iconst 1, 1) := by decide +kernel
theorem dX8_pays_22 : decode cX8_pays 22 = .ok (.goto 27, 3) := by decide +kernel
theorem dX8_pays_25 : decode cX8_pays 25 = .ok (.iconst 0, 1) := by decide +kernel
theorem dX8_pays_26 : decode cX8_pays 26 = .ok (.goto 23, 3) := by decide +kernel
theorem dX8_pays_29 : decode cX8_pays 29 = .ok (.lload_n 1, 1) := by decide +kernel
theorem dX8_pays_30 : decode cX8_pays 30 = .ok (.lconst 0, 1) := by decide +kernel
theorem dX8_pays_31 : decode cX8_pays 31 = .ok (.lcmp, 1) := by decide +kernel
theorem dX8_pays_32 : decode cX8_pays 32 = .ok (.ifCond .eq 16, 3) := by decide +kernel
theorem dX8_pays_35 : decode cX8_pays 35 = .ok (.lload 5, 2) := by decide +kernel
theorem dX8_pays_37 : decode cX8_pays 37 = .ok (.lload_n 1, 1) := by decide +kernel
theorem dX8_pays_38 : decode cX8_pays 38 = .ok (.ldiv, 1) := by decide +kernel
theorem dX8_pays_39 : decode cX8_pays 39 = .ok (.lload_n 3, 1) := by decide +kernel
theorem dX8_pays_40 : decode cX8_pays 40 = .ok (.lcmp, 1) := by decide +kernel
theorem dX8_pays_41 : decode cX8_pays 41 = .ok (.ifCond .eq 7, 3) := by decide +kernel
theorem dX8_pays_44 : decode cX8_pays 44 = .ok (.iconst 1, 1) := by decide +kernel
theorem dX8_pays_45 : decode cX8_pays 45 = .ok (.goto 4, 3) := by decide +kernel
theorem dX8_pays_48 : decode cX8_pays 48 = .ok (.iconst 0, 1) := by decide +kernel
theorem dX8_pays_49 : decode cX8_pays 49 = .ok (.istore 7, 2) := by decide +kernel
theorem dX8_pays_51 : decode cX8_pays 51 = .ok (.aload_n 0, 1) := by decide +kernel
theorem dX8_pays_52 : decode cX8_pays 52 = .ok (.getfield 347, 3) := by decide +kernel
theorem dX8_pays_55 : decode cX8_pays 55 = .ok (.lload 5, 2) := by decide +kernel
theorem dX8_pays_57 : decode cX8_pays 57 = .ok (.ladd, 1) := by decide +kernel
theorem dX8_pays_58 : decode cX8_pays 58 = .ok (.lstore 8, 2) := by decide +kernel
theorem dX8_pays_60 : decode cX8_pays 60 = .ok (.iload 7, 2) := by decide +kernel
theorem dX8_pays_62 : decode cX8_pays 62 = .ok (.ifCond .ne 21, 3) := by decide +kernel
theorem dX8_pays_65 : decode cX8_pays 65 = .ok (.aload_n 0, 1) := by decide +kernel
theorem dX8_pays_66 : decode cX8_pays 66 = .ok (.getfield 347, 3) := by decide +kernel
theorem dX8_pays_69 : decode cX8_pays 69 = .ok (.lload 8, 2) := by decide +kernel
theorem dX8_pays_71 : decode cX8_pays 71 = .ok (.lxor, 1) := by decide +kernel
theorem dX8_pays_72 : decode cX8_pays 72 = .ok (.lload 5, 2) := by decide +kernel
theorem dX8_pays_74 : decode cX8_pays 74 = .ok (.lload 8, 2) := by decide +kernel
theorem dX8_pays_76 : decode cX8_pays 76 = .ok (.lxor, 1) := by decide +kernel
theorem dX8_pays_77 : decode cX8_pays 77 = .ok (.land, 1) := by decide +kernel
theorem dX8_pays_78 : decode cX8_pays 78 = .ok (.lconst 0, 1) := by decide +kernel
theorem dX8_pays_79 : decode cX8_pays 79 = .ok (.lcmp, 1) := by decide +kernel
theorem dX8_pays_80 : decode cX8_pays 80 = .ok (.ifCond .ge 6, 3) := by decide +kernel
theorem dX8_pays_83 : decode cX8_pays 83 = .ok (.bipush (-7), 2) := by decide +kernel
theorem dX8_pays_85 : decode cX8_pays 85 = .ok (.ireturn, 1) := by decide +kernel
theorem dX8_pays_86 : decode cX8_pays 86 = .ok (.aload_n 0, 1) := by decide +kernel
theorem dX8_pays_87 : decode cX8_pays 87 = .ok (.lload 8, 2) := by decide +kernel
theorem dX8_pays_89 : decode cX8_pays 89 = .ok (.putfield 347, 3) := by decide +kernel
theorem dX8_pays_92 : decode cX8_pays 92 = .ok (.iconst 1, 1) := by decide +kernel
theorem dX8_pays_93 : decode cX8_pays 93 = .ok (.ireturn, 1) := by decide +kernel
theorem dX8_account_0 : decode cX8_account 0 = .ok (.aload_n 0, 1) := by decide +kernel
theorem dX8_account_1 : decode cX8_account 1 = .ok (.getfield 347, 3) := by decide +kernel
theorem dX8_account_4 : decode cX8_account 4 = .ok (.lreturn, 1) := by decide +kernel
theorem dX8_image_0 : decode cX8_image 0 = .ok (.aload_n 0, 1) := by decide +kernel
theorem dX8_image_1 : decode cX8_image 1 = .ok (.getfield 32, 3) := by decide +kernel
theorem dX8_image_4 : decode cX8_image 4 = .ok (.aload_n 0, 1) := by decide +kernel
theorem dX8_image_5 : decode cX8_image 5 = .ok (.getfield 14, 3) := by decide +kernel
theorem dX8_image_8 : decode cX8_image 8 = .ok (.invokevirtual 210, 3) := by decide +kernel
theorem dX8_image_11 : decode cX8_image 11 = .ok (.aload_n 0, 1) := by decide +kernel
theorem dX8_image_12 : decode cX8_image 12 = .ok (.getfield 35, 3) := by decide +kernel
theorem dX8_image_15 : decode cX8_image 15 = .ok (.aload_n 0, 1) := by decide +kernel
theorem dX8_image_16 : decode cX8_image 16 = .ok (.getfield 21, 3) := by decide +kernel
theorem dX8_image_19 : decode cX8_image 19 = .ok (.invokevirtual 140, 3) := by decide +kernel
theorem dX8_image_22 : decode cX8_image 22 = .ok (.aload_n 0, 1) := by decide +kernel
theorem dX8_image_23 : decode cX8_image 23 = .ok (.aload_n 0, 1) := by decide +kernel
theorem dX8_image_24 : decode cX8_image 24 = .ok (.getfield 347, 3) := by decide +kernel
theorem dX8_image_27 : decode cX8_image 27 = .ok (.putfield 351, 3) := by decide +kernel
theorem dX8_image_30 : decode cX8_image 30 = .ok (.aload_n 0, 1) := by decide +kernel
theorem dX8_image_31 : decode cX8_image 31 = .ok (.iconst 1, 1) := by decide +kernel
theorem dX8_image_32 : decode cX8_image 32 = .ok (.putfield 354, 3) := by decide +kernel
theorem dX8_image_35 : decode cX8_image 35 = .ok (.aload_n 0, 1) := by decide +kernel
theorem dX8_image_36 : decode cX8_image 36 = .ok (.getfield 21, 3) := by decide +kernel
theorem dX8_image_39 : decode cX8_image 39 = .ok (.getfield 76, 3) := by decide +kernel
theorem dX8_image_42 : decode cX8_image 42 = .ok (.ireturn, 1) := by decide +kernel
theorem dX8_undo_0 : decode cX8_undo 0 = .ok (.aload_n 0, 1) := by decide +kernel
theorem dX8_undo_1 : decode cX8_undo 1 = .ok (.getfield 354, 3) := by decide +kernel
theorem dX8_undo_4 : decode cX8_undo 4 = .ok (.ifCond .ne 6, 3) := by decide +kernel
theorem dX8_undo_7 : decode cX8_undo 7 = .ok (.bipush (-5), 2) := by decide +kernel
theorem dX8_undo_9 : decode cX8_undo 9 = .ok (.ireturn, 1) := by decide +kernel
theorem dX8_undo_10 : decode cX8_undo 10 = .ok (.aload_n 0, 1) := by decide +kernel
theorem dX8_undo_11 : decode cX8_undo 11 = .ok (.getfield 14, 3) := by decide +kernel
theorem dX8_undo_14 : decode cX8_undo 14 = .ok (.aload_n 0, 1) := by decide +kernel
theorem dX8_undo_15 : decode cX8_undo 15 = .ok (.getfield 32, 3) := by decide +kernel
theorem dX8_undo_18 : decode cX8_undo 18 = .ok (.invokevirtual 210, 3) := by decide +kernel
theorem dX8_undo_21 : decode cX8_undo 21 = .ok (.aload_n 0, 1) := by decide +kernel
theorem dX8_undo_22 : decode cX8_undo 22 = .ok (.getfield 21, 3) := by decide +kernel
theorem dX8_undo_25 : decode cX8_undo 25 = .ok (.aload_n 0, 1) := by decide +kernel
theorem dX8_undo_26 : decode cX8_undo 26 = .ok (.getfield 35, 3) := by decide +kernel
theorem dX8_undo_29 : decode cX8_undo 29 = .ok (.invokevirtual 140, 3) := by decide +kernel
theorem dX8_undo_32 : decode cX8_undo 32 = .ok (.aload_n 0, 1) := by decide +kernel
theorem dX8_undo_33 : decode cX8_undo 33 = .ok (.aload_n 0, 1) := by decide +kernel
theorem dX8_undo_34 : decode cX8_undo 34 = .ok (.getfield 351, 3) := by decide +kernel
theorem dX8_undo_37 : decode cX8_undo 37 = .ok (.putfield 347, 3) := by decide +kernel
theorem dX8_undo_40 : decode cX8_undo 40 = .ok (.aload_n 0, 1) := by decide +kernel
theorem dX8_undo_41 : decode cX8_undo 41 = .ok (.getfield 21, 3) := by decide +kernel
theorem dX8_undo_44 : decode cX8_undo 44 = .ok (.getfield 76, 3) := by decide +kernel
theorem dX8_undo_47 : decode cX8_undo 47 = .ok (.ireturn, 1) := by decide +kernel
theorem dX8_count_0 : decode cX8_count 0 = .ok (.iload_n 1, 1) := by decide +kernel
theorem dX8_count_1 : decode cX8_count 1 = .ok (.tableswitch 92 0 5 #[39, 47, 55, 63, 76, 84], 39) := by decide +kernel
theorem dX8_count_40 : decode cX8_count 40 = .ok (.aload_n 0, 1) := by decide +kernel
theorem dX8_count_41 : decode cX8_count 41 = .ok (.getfield 14, 3) := by decide +kernel
theorem dX8_count_44 : decode cX8_count 44 = .ok (.getfield 72, 3) := by decide +kernel
theorem dX8_count_47 : decode cX8_count 47 = .ok (.ireturn, 1) := by decide +kernel
theorem dX8_count_48 : decode cX8_count 48 = .ok (.aload_n 0, 1) := by decide +kernel
theorem dX8_count_49 : decode cX8_count 49 = .ok (.getfield 21, 3) := by decide +kernel
theorem dX8_count_52 : decode cX8_count 52 = .ok (.getfield 76, 3) := by decide +kernel
theorem dX8_count_55 : decode cX8_count 55 = .ok (.ireturn, 1) := by decide +kernel
theorem dX8_count_56 : decode cX8_count 56 = .ok (.aload_n 0, 1) := by decide +kernel
theorem dX8_count_57 : decode cX8_count 57 = .ok (.getfield 28, 3) := by decide +kernel
theorem dX8_count_60 : decode cX8_count 60 = .ok (.getfield 133, 3) := by decide +kernel
theorem dX8_count_63 : decode cX8_count 63 = .ok (.ireturn, 1) := by decide +kernel
theorem dX8_count_64 : decode cX8_count 64 = .ok (.aload_n 0, 1) := by decide +kernel
theorem dX8_count_65 : decode cX8_count 65 = .ok (.getfield 14, 3) := by decide +kernel
theorem dX8_count_68 : decode cX8_count 68 = .ok (.getfield 328, 3) := by decide +kernel
theorem dX8_count_71 : decode cX8_count 71 = .ok (.bipush 108, 2) := by decide +kernel
theorem dX8_count_73 : decode cX8_count 73 = .ok (.invokevirtual 332, 3) := by decide +kernel
theorem dX8_count_76 : decode cX8_count 76 = .ok (.ireturn, 1) := by decide +kernel
theorem dX8_count_77 : decode cX8_count 77 = .ok (.aload_n 0, 1) := by decide +kernel
theorem dX8_count_78 : decode cX8_count 78 = .ok (.getfield 14, 3) := by decide +kernel
theorem dX8_count_81 : decode cX8_count 81 = .ok (.getfield 127, 3) := by decide +kernel
theorem dX8_count_84 : decode cX8_count 84 = .ok (.ireturn, 1) := by decide +kernel
theorem dX8_count_85 : decode cX8_count 85 = .ok (.aload_n 0, 1) := by decide +kernel
theorem dX8_count_86 : decode cX8_count 86 = .ok (.getfield 14, 3) := by decide +kernel
theorem dX8_count_89 : decode cX8_count 89 = .ok (.invokevirtual 357, 3) := by decide +kernel
theorem dX8_count_92 : decode cX8_count 92 = .ok (.ireturn, 1) := by decide +kernel
theorem dX8_count_93 : decode cX8_count 93 = .ok (.iconst (-1), 1) := by decide +kernel
theorem dX8_count_94 : decode cX8_count 94 = .ok (.ireturn, 1) := by decide +kernel
