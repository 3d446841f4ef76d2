theorem dX0_init_0 : decode cX0_init 0 = .ok (.aload_n 0, 1) := by decide +kernel
theorem dX0_init_1 : decode cX0_init 1 = .ok (.invokespecial 3, 3) := by decide +kernel
theorem dX0_init_4 : decode cX0_init 4 = .ok (.aload_n 0, 1) := by decide +kernel
theorem dX0_init_5 : decode cX0_init 5 = .ok (.bipush 16, 2) := by decide +kernel
theorem dX0_init_7 : decode cX0_init 7 = .ok (.newarray .int, 2) := by decide +kernel
theorem dX0_init_9 : decode cX0_init 9 = .ok (.putfield 9, 3) := by decide +kernel
theorem dX0_init_12 : decode cX0_init 12 = .ok (.aload_n 0, 1) := by decide +kernel
theorem dX0_init_13 : decode cX0_init 13 = .ok (.bipush 24, 2) := by decide +kernel
theorem dX0_init_15 : decode cX0_init 15 = .ok (.newarray .int, 2) := by decide +kernel
theorem dX0_init_17 : decode cX0_init 17 = .ok (.putfield 15, 3) := by decide +kernel
theorem dX0_init_20 : decode cX0_init 20 = .ok (.aload_n 0, 1) := by decide +kernel
theorem dX0_init_21 : decode cX0_init 21 = .ok (.bipush 24, 2) := by decide +kernel
theorem dX0_init_23 : decode cX0_init 23 = .ok (.newarray .int, 2) := by decide +kernel
theorem dX0_init_25 : decode cX0_init 25 = .ok (.putfield 18, 3) := by decide +kernel
theorem dX0_init_28 : decode cX0_init 28 = .ok (.return_, 1) := by decide +kernel
theorem dX0_clear_0 : decode cX0_clear 0 = .ok (.aload_n 0, 1) := by decide +kernel
theorem dX0_clear_1 : decode cX0_clear 1 = .ok (.iconst 0, 1) := by decide +kernel
theorem dX0_clear_2 : decode cX0_clear 2 = .ok (.putfield 21, 3) := by decide +kernel
theorem dX0_clear_5 : decode cX0_clear 5 = .ok (.aload_n 0, 1) := by decide +kernel
theorem dX0_clear_6 : decode cX0_clear 6 = .ok (.iconst 0, 1) := by decide +kernel
theorem dX0_clear_7 : decode cX0_clear 7 = .ok (.putfield 25, 3) := by decide +kernel
theorem dX0_clear_10 : decode cX0_clear 10 = .ok (.aload_n 0, 1) := by decide +kernel
theorem dX0_clear_11 : decode cX0_clear 11 = .ok (.iconst 0, 1) := by decide +kernel
theorem dX0_clear_12 : decode cX0_clear 12 = .ok (.putfield 28, 3) := by decide +kernel
theorem dX0_clear_15 : decode cX0_clear 15 = .ok (.aload_n 0, 1) := by decide +kernel
theorem dX0_clear_16 : decode cX0_clear 16 = .ok (.iconst 0, 1) := by decide +kernel
theorem dX0_clear_17 : decode cX0_clear 17 = .ok (.putfield 31, 3) := by decide +kernel
theorem dX0_clear_20 : decode cX0_clear 20 = .ok (.aload_n 0, 1) := by decide +kernel
theorem dX0_clear_21 : decode cX0_clear 21 = .ok (.iconst 0, 1) := by decide +kernel
theorem dX0_clear_22 : decode cX0_clear 22 = .ok (.putfield 34, 3) := by decide +kernel
theorem dX0_clear_25 : decode cX0_clear 25 = .ok (.iconst 0, 1) := by decide +kernel
theorem dX0_clear_26 : decode cX0_clear 26 = .ok (.istore_n 1, 1) := by decide +kernel
theorem dX0_clear_27 : decode cX0_clear 27 = .ok (.iload_n 1, 1) := by decide +kernel
theorem dX0_clear_28 : decode cX0_clear 28 = .ok (.bipush 16, 2) := by decide +kernel
theorem dX0_clear_30 : decode cX0_clear 30 = .ok (.if_icmp .ge 16, 3) := by decide +kernel
theorem dX0_clear_33 : decode cX0_clear 33 = .ok (.aload_n 0, 1) := by decide +kernel
theorem dX0_clear_34 : decode cX0_clear 34 = .ok (.getfield 9, 3) := by decide +kernel
theorem dX0_clear_37 : decode cX0_clear 37 = .ok (.iload_n 1, 1) := by decide +kernel
theorem dX0_clear_38 : decode cX0_clear 38 = .ok (.iconst 0, 1) := by decide +kernel
theorem dX0_clear_39 : decode cX0_clear 39 = .ok (.iastore, 1) := by decide +kernel
theorem dX0_clear_40 : decode cX0_clear 40 = .ok (.iinc 1 1, 3) := by decide +kernel
theorem dX0_clear_43 : decode cX0_clear 43 = .ok (.goto (-16), 3) := by decide +kernel
theorem dX0_clear_46 : decode cX0_clear 46 = .ok (.iconst 0, 1) := by decide +kernel
theorem dX0_clear_47 : decode cX0_clear 47 = .ok (.istore_n 1, 1) := by decide +kernel
theorem dX0_clear_48 : decode cX0_clear 48 = .ok (.iload_n 1, 1) := by decide +kernel
theorem dX0_clear_49 : decode cX0_clear 49 = .ok (.bipush 24, 2) := by decide +kernel
theorem dX0_clear_51 : decode cX0_clear 51 = .ok (.if_icmp .ge 23, 3) := by decide +kernel
theorem dX0_clear_54 : decode cX0_clear 54 = .ok (.aload_n 0, 1) := by decide +kernel
theorem dX0_clear_55 : decode cX0_clear 55 = .ok (.getfield 15, 3) := by decide +kernel
theorem dX0_clear_58 : decode cX0_clear 58 = .ok (.iload_n 1, 1) := by decide +kernel
theorem dX0_clear_59 : decode cX0_clear 59 = .ok (.iconst 0, 1) := by decide +kernel
theorem dX0_clear_60 : decode cX0_clear 60 = .ok (.iastore, 1) := by decide +kernel
theorem dX0_clear_61 : decode cX0_clear 61 = .ok (.aload_n 0, 1) := by decide +kernel
theorem dX0_clear_62 : decode cX0_clear 62 = .ok (.getfield 18, 3) := by decide +kernel
theorem dX0_clear_65 : decode cX0_clear 65 = .ok (.iload_n 1, 1) := by decide +kernel
theorem dX0_clear_66 : decode cX0_clear 66 = .ok (.iconst 0, 1) := by decide +kernel
theorem dX0_clear_67 : decode cX0_clear 67 = .ok (.iastore, 1) := by decide +kernel
theorem dX0_clear_68 : decode cX0_clear 68 = .ok (.iinc 1 1, 3) := by decide +kernel
theorem dX0_clear_71 : decode cX0_clear 71 = .ok (.goto (-23), 3) := by decide +kernel
theorem dX0_clear_74 : decode cX0_clear 74 = .ok (.return_, 1) := by decide +kernel
theorem dX0_copyFrom_0 : decode cX0_copyFrom 0 = .ok (.aload_n 0, 1) := by decide +kernel
theorem dX0_copyFrom_1 : decode cX0_copyFrom 1 = .ok (.aload_n 1, 1) := by decide +kernel
theorem dX0_copyFrom_2 : decode cX0_copyFrom 2 = .ok (.getfield 21, 3) := by decide +kernel
theorem dX0_copyFrom_5 : decode cX0_copyFrom 5 = .ok (.putfield 21, 3) := by decide +kernel
theorem dX0_copyFrom_8 : decode cX0_copyFrom 8 = .ok (.aload_n 0, 1) := by decide +kernel
theorem dX0_copyFrom_9 : decode cX0_copyFrom 9 = .ok (.aload_n 1, 1) := by decide +kernel
theorem dX0_copyFrom_10 : decode cX0_copyFrom 10 = .ok (.getfield 25, 3) := by decide +kernel
theorem dX0_copyFrom_13 : decode cX0_copyFrom 13 = .ok (.putfield 25, 3) := by decide +kernel
theorem dX0_copyFrom_16 : decode cX0_copyFrom 16 = .ok (.aload_n 0, 1) := by decide +kernel
theorem dX0_copyFrom_17 : decode cX0_copyFrom 17 = .ok (.aload_n 1, 1) := by decide +kernel
theorem dX0_copyFrom_18 : decode cX0_copyFrom 18 = .ok (.getfield 28, 3) := by decide +kernel
theorem dX0_copyFrom_21 : decode cX0_copyFrom 21 = .ok (.putfield 28, 3) := by decide +kernel
theorem dX0_copyFrom_24 : decode cX0_copyFrom 24 = .ok (.aload_n 0, 1) := by decide +kernel
theorem dX0_copyFrom_25 : decode cX0_copyFrom 25 = .ok (.aload_n 1, 1) := by decide +kernel
theorem dX0_copyFrom_26 : decode cX0_copyFrom 26 = .ok (.getfield 31, 3) := by decide +kernel
theorem dX0_copyFrom_29 : decode cX0_copyFrom 29 = .ok (.putfield 31, 3) := by decide +kernel
theorem dX0_copyFrom_32 : decode cX0_copyFrom 32 = .ok (.aload_n 0, 1) := by decide +kernel
theorem dX0_copyFrom_33 : decode cX0_copyFrom 33 = .ok (.aload_n 1, 1) := by decide +kernel
theorem dX0_copyFrom_34 : decode cX0_copyFrom 34 = .ok (.getfield 34, 3) := by decide +kernel
theorem dX0_copyFrom_37 : decode cX0_copyFrom 37 = .ok (.putfield 34, 3) := by decide +kernel
theorem dX0_copyFrom_40 : decode cX0_copyFrom 40 = .ok (.aload_n 1, 1) := by decide +kernel
theorem dX0_copyFrom_41 : decode cX0_copyFrom 41 = .ok (.getfield 9, 3) := by decide +kernel
theorem dX0_copyFrom_44 : decode cX0_copyFrom 44 = .ok (.iconst 0, 1) := by decide +kernel
theorem dX0_copyFrom_45 : decode cX0_copyFrom 45 = .ok (.aload_n 0, 1) := by decide +kernel
theorem dX0_copyFrom_46 : decode cX0_copyFrom 46 = .ok (.getfield 9, 3) := by decide +kernel
theorem dX0_copyFrom_49 : decode cX0_copyFrom 49 = .ok (.iconst 0, 1) := by decide +kernel
theorem dX0_copyFrom_50 : decode cX0_copyFrom 50 = .ok (.bipush 16, 2) := by decide +kernel
theorem dX0_copyFrom_52 : decode cX0_copyFrom 52 = .ok (.invokestatic 37, 3) := by decide +kernel
theorem dX0_copyFrom_55 : decode cX0_copyFrom 55 = .ok (.aload_n 1, 1) := by decide +kernel
theorem dX0_copyFrom_56 : decode cX0_copyFrom 56 = .ok (.getfield 15, 3) := by decide +kernel
theorem dX0_copyFrom_59 : decode cX0_copyFrom 59 = .ok (.iconst 0, 1) := by decide +kernel
theorem dX0_copyFrom_60 : decode cX0_copyFrom 60 = .ok (.aload_n 0, 1) := by decide +kernel
theorem dX0_copyFrom_61 : decode cX0_copyFrom 61 = .ok (.getfield 15, 3) := by decide +kernel
theorem dX0_copyFrom_64 : decode cX0_copyFrom 64 = .ok (.iconst 0, 1) := by decide +kernel
theorem dX0_copyFrom_65 : decode cX0_copyFrom 65 = .ok (.bipush 24, 2) := by decide +kernel
theorem dX0_copyFrom_67 : decode cX0_copyFrom 67 = .ok (.invokestatic 37, 3) := by decide +kernel
theorem dX0_copyFrom_70 : decode cX0_copyFrom 70 = .ok (.aload_n 1, 1) := by decide +kernel
theorem dX0_copyFrom_71 : decode cX0_copyFrom 71 = .ok (.getfield 18, 3) := by decide +kernel
theorem dX0_copyFrom_74 : decode cX0_copyFrom 74 = .ok (.iconst 0, 1) := by decide +kernel
theorem dX0_copyFrom_75 : decode cX0_copyFrom 75 = .ok (.aload_n 0, 1) := by decide +kernel
theorem dX0_copyFrom_76 : decode cX0_copyFrom 76 = .ok (.getfield 18, 3) := by decide +kernel
theorem dX0_copyFrom_79 : decode cX0_copyFrom 79 = .ok (.iconst 0, 1) := by decide +kernel
theorem dX0_copyFrom_80 : decode cX0_copyFrom 80 = .ok (.bipush 24, 2) := by decide +kernel
theorem dX0_copyFrom_82 : decode cX0_copyFrom 82 = .ok (.invokestatic 37, 3) := by decide +kernel
theorem dX0_copyFrom_85 : decode cX0_copyFrom 85 = .ok (.return_, 1) := by decide +kernel
theorem dX0_knownCount_0 : decode cX0_knownCount 0 = .ok (.aload_n 0, 1) := by decide +kernel
theorem dX0_knownCount_1 : decode cX0_knownCount 1 = .ok (.getfield 21, 3) := by decide +kernel
theorem dX0_knownCount_4 : decode cX0_knownCount 4 = .ok (.invokestatic 43, 3) := by decide +kernel
theorem dX0_knownCount_7 : decode cX0_knownCount 7 = .ok (.ireturn, 1) := by decide +kernel
theorem dX0_receive_0 : decode cX0_receive 0 = .ok (.aload_n 0, 1) := by decide +kernel
theorem dX0_receive_1 : decode cX0_receive 1 = .ok (.dup, 1) := by decide +kernel
theorem dX0_receive_2 : decode cX0_receive 2 = .ok (.getfield 28, 3) := by decide +kernel
theorem dX0_receive_5 : decode cX0_receive 5 = .ok (.iconst 1, 1) := by decide +kernel
theorem dX0_receive_6 : decode cX0_receive 6 = .ok (.iadd, 1) := by decide +kernel
theorem dX0_receive_7 : decode cX0_receive 7 = .ok (.putfield 28, 3) := by decide +kernel
theorem dX0_receive_10 : decode cX0_receive 10 = .ok (.aload_n 1, 1) := by decide +kernel
theorem dX0_receive_11 : decode cX0_receive 11 = .ok (.getfield 49, 3) := by decide +kernel
theorem dX0_receive_14 : decode cX0_receive 14 = .ok (.ifCond .eq 15, 3) := by decide +kernel
theorem dX0_receive_17 : decode cX0_receive 17 = .ok (.aload_n 0, 1) := by decide +kernel
theorem dX0_receive_18 : decode cX0_receive 18 = .ok (.dup, 1) := by decide +kernel
theorem dX0_receive_19 : decode cX0_receive 19 = .ok (.getfield 31, 3) := by decide +kernel
theorem dX0_receive_22 : decode cX0_receive 22 = .ok (.iconst 1, 1) := by decide +kernel
theorem dX0_receive_23 : decode cX0_receive 23 = .ok (.iadd, 1) := by decide +kernel
theorem dX0_receive_24 : decode cX0_receive 24 = .ok (.putfield 31, 3) := by decide +kernel
theorem dX0_receive_27 : decode cX0_receive 27 = .ok (.iconst 0, 1) := by decide +kernel
theorem dX0_receive_28 : decode cX0_receive 28 = .ok (.ireturn, 1) := by decide +kernel
theorem dX0_receive_29 : decode cX0_receive 29 = .ok (.aload_n 0, 1) := by decide +kernel
theorem dX0_receive_30 : decode cX0_receive 30 = .ok (.invokevirtual 54, 3) := by decide +kernel
theorem dX0_receive_33 : decode cX0_receive 33 = .ok (.istore_n 2, 1) := by decide +kernel
theorem dX0_receive_34 : decode cX0_receive 34 = .ok (.aload_n 1, 1) := by decide +kernel
theorem dX0_receive_35 : decode cX0_receive 35 = .ok (.getfield 58, 3) := by decide +kernel
theorem dX0_receive_38 : decode cX0_receive 38 = .ok (.aload_n 0, 1) := by decide +kernel
theorem dX0_receive_39 : decode cX0_receive 39 = .ok (.getfield 21, 3) := by decide +kernel
theorem dX0_receive_42 : decode cX0_receive 42 = .ok (.iconst (-1), 1) := by decide +kernel
theorem dX0_receive_43 : decode cX0_receive 43 = .ok (.ixor, 1) := by decide +kernel
theorem dX0_receive_44 : decode cX0_receive 44 = .ok (.iand, 1) := by decide +kernel
theorem dX0_receive_45 : decode cX0_receive 45 = .ok (.istore_n 3, 1) := by decide +kernel
theorem dX0_receive_46 : decode cX0_receive 46 = .ok (.aload_n 1, 1) := by decide +kernel
theorem dX0_receive_47 : decode cX0_receive 47 = .ok (.getfield 61, 3) := by decide +kernel
theorem dX0_receive_50 : decode cX0_receive 50 = .ok (.istore 4, 2) := by decide +kernel
theorem dX0_receive_52 : decode cX0_receive 52 = .ok (.iconst 0, 1) := by decide +kernel
theorem dX0_receive_53 : decode cX0_receive 53 = .ok (.istore 5, 2) := by decide +kernel
theorem dX0_receive_55 : decode cX0_receive 55 = .ok (.iload 5, 2) := by decide +kernel
theorem dX0_receive_57 : decode cX0_receive 57 = .ok (.bipush 16, 2) := by decide +kernel
theorem dX0_receive_59 : decode cX0_receive 59 = .ok (.if_icmp .ge 38, 3) := by decide +kernel
theorem dX0_receive_62 : decode cX0_receive 62 = .ok (.aload_n 1, 1) := by decide +kernel
theorem dX0_receive_63 : decode cX0_receive 63 = .ok (.getfield 58, 3) := by decide +kernel
theorem dX0_receive_66 : decode cX0_receive 66 = .ok (.aload_n 0, 1) := by decide +kernel
theorem dX0_receive_67 : decode cX0_receive 67 = .ok (.getfield 21, 3) := by decide +kernel
theorem dX0_receive_70 : decode cX0_receive 70 = .ok (.iand, 1) := by decide +kernel
theorem dX0_receive_71 : decode cX0_receive 71 = .ok (.iconst 1, 1) := by decide +kernel
theorem dX0_receive_72 : decode cX0_receive 72 = .ok (.iload 5, 2) := by decide +kernel
theorem dX0_receive_74 : decode cX0_receive 74 = .ok (.ishl, 1) := by decide +kernel
theorem dX0_receive_75 : decode cX0_receive 75 = .ok (.iand, 1) := by decide +kernel
theorem dX0_receive_76 : decode cX0_receive 76 = .ok (.ifCond .eq 15, 3) := by decide +kernel
theorem dX0_receive_79 : decode cX0_receive 79 = .ok (.iload 4, 2) := by decide +kernel
theorem dX0_receive_81 : decode cX0_receive 81 = .ok (.aload_n 0, 1) := by decide +kernel
theorem dX0_receive_82 : decode cX0_receive 82 = .ok (.getfield 9, 3) := by decide +kernel
theorem dX0_receive_85 : decode cX0_receive 85 = .ok (.iload 5, 2) := by decide +kernel
theorem dX0_receive_87 : decode cX0_receive 87 = .ok (.iaload, 1) := by decide +kernel
theorem dX0_receive_88 : decode cX0_receive 88 = .ok (.ixor, 1) := by decide +kernel
theorem dX0_receive_89 : decode cX0_receive 89 = .ok (.istore 4, 2) := by decide +kernel
theorem dX0_receive_91 : decode cX0_receive 91 = .ok (.iinc 5 1, 3) := by decide +kernel
theorem dX0_receive_94 : decode cX0_receive 94 = .ok (.goto (-39), 3) := by decide +kernel
theorem dX0_receive_97 : decode cX0_receive 97 = .ok (.iload_n 3, 1) := by decide +kernel
theorem dX0_receive_98 : decode cX0_receive 98 = .ok (.invokestatic 43, 3) := by decide +kernel
theorem dX0_receive_101 : decode cX0_receive 101 = .ok (.istore 5, 2) := by decide +kernel
theorem dX0_receive_103 : decode cX0_receive 103 = .ok (.iload 5, 2) := by decide +kernel
theorem dX0_receive_105 : decode cX0_receive 105 = .ok (.iconst 1, 1) := by decide +kernel
theorem dX0_receive_106 : decode cX0_receive 106 = .ok (.if_icmp .ne 17, 3) := by decide +kernel
theorem dX0_receive_109 : decode cX0_receive 109 = .ok (.aload_n 0, 1) := by decide +kernel
theorem dX0_receive_110 : decode cX0_receive 110 = .ok (.iload_n 3, 1) := by decide +kernel
theorem dX0_receive_111 : decode cX0_receive 111 = .ok (.iload 4, 2) := by decide +kernel
theorem dX0_receive_113 : decode cX0_receive 113 = .ok (.invokevirtual 64, 3) := by decide +kernel
theorem dX0_receive_116 : decode cX0_receive 116 = .ok (.aload_n 0, 1) := by decide +kernel
theorem dX0_receive_117 : decode cX0_receive 117 = .ok (.invokevirtual 68, 3) := by decide +kernel
theorem dX0_receive_120 : decode cX0_receive 120 = .ok (.goto 28, 3) := by decide +kernel
theorem dX0_receive_123 : decode cX0_receive 123 = .ok (.iload 5, 2) := by decide +kernel
theorem dX0_receive_125 : decode cX0_receive 125 = .ok (.ifCond .eq 13, 3) := by decide +kernel
theorem dX0_receive_128 : decode cX0_receive 128 = .ok (.aload_n 0, 1) := by decide +kernel
theorem dX0_receive_129 : decode cX0_receive 129 = .ok (.iload_n 3, 1) := by decide +kernel
theorem dX0_receive_130 : decode cX0_receive 130 = .ok (.iload 4, 2) := by decide +kernel
theorem dX0_receive_132 : decode cX0_receive 132 = .ok (.invokevirtual 71, 3) := by decide +kernel
theorem dX0_receive_135 : decode cX0_receive 135 = .ok (.ifCond .ne 13, 3) := by decide +kernel
theorem dX0_receive_138 : decode cX0_receive 138 = .ok (.aload_n 0, 1) := by decide +kernel
theorem dX0_receive_139 : decode cX0_receive 139 = .ok (.dup, 1) := by decide +kernel
theorem dX0_receive_140 : decode cX0_receive 140 = .ok (.getfield 34, 3) := by decide +kernel
theorem dX0_receive_143 : decode cX0_receive 143 = .ok (.iconst 1, 1) := by decide +kernel
theorem dX0_receive_144 : decode cX0_receive 144 = .ok (.iadd, 1) := by decide +kernel
theorem dX0_receive_145 : decode cX0_receive 145 = .ok (.putfield 34, 3) := by decide +kernel
theorem dX0_receive_148 : decode cX0_receive 148 = .ok (.aload_n 0, 1) := by decide +kernel
theorem dX0_receive_149 : decode cX0_receive 149 = .ok (.invokevirtual 54, 3) := by decide +kernel
theorem dX0_receive_152 : decode cX0_receive 152 = .ok (.iload_n 2, 1) := by decide +kernel
theorem dX0_receive_153 : decode cX0_receive 153 = .ok (.isub, 1) := by decide +kernel
theorem dX0_receive_154 : decode cX0_receive 154 = .ok (.ireturn, 1) := by decide +kernel
theorem dX0_learnSingles_0 : decode cX0_learnSingles 0 = .ok (.aload_n 0, 1) := by decide +kernel
theorem dX0_learnSingles_1 : decode cX0_learnSingles 1 = .ok (.invokevirtual 54, 3) := by decide +kernel
theorem dX0_learnSingles_4 : decode cX0_learnSingles 4 = .ok (.istore_n 2, 1) := by decide +kernel
theorem dX0_learnSingles_5 : decode cX0_learnSingles 5 = .ok (.iconst 0, 1) := by decide +kernel
theorem dX0_learnSingles_6 : decode cX0_learnSingles 6 = .ok (.istore_n 3, 1) := by decide +kernel
theorem dX0_learnSingles_7 : decode cX0_learnSingles 7 = .ok (.iload_n 3, 1) := by decide +kernel
theorem dX0_learnSingles_8 : decode cX0_learnSingles 8 = .ok (.bipush 24, 2) := by decide +kernel
theorem dX0_learnSingles_10 : decode cX0_learnSingles 10 = .ok (.if_icmp .ge 33, 3) := by decide +kernel
theorem dX0_learnSingles_13 : decode cX0_learnSingles 13 = .ok (.aload_n 1, 1) := by decide +kernel
theorem dX0_learnSingles_14 : decode cX0_learnSingles 14 = .ok (.iload_n 3, 1) := by decide +kernel
theorem dX0_learnSingles_15 : decode cX0_learnSingles 15 = .ok (.invokevirtual 75, 3) := by decide +kernel
theorem dX0_learnSingles_18 : decode cX0_learnSingles 18 = .ok (.ifCond .eq 19, 3) := by decide +kernel
theorem dX0_learnSingles_21 : decode cX0_learnSingles 21 = .ok (.aload_n 0, 1) := by decide +kernel
theorem dX0_learnSingles_22 : decode cX0_learnSingles 22 = .ok (.aload_n 1, 1) := by decide +kernel
theorem dX0_learnSingles_23 : decode cX0_learnSingles 23 = .ok (.getfield 81, 3) := by decide +kernel
theorem dX0_learnSingles_26 : decode cX0_learnSingles 26 = .ok (.iload_n 3, 1) := by decide +kernel
theorem dX0_learnSingles_27 : decode cX0_learnSingles 27 = .ok (.iaload, 1) := by decide +kernel
theorem dX0_learnSingles_28 : decode cX0_learnSingles 28 = .ok (.aload_n 1, 1) := by decide +kernel
theorem dX0_learnSingles_29 : decode cX0_learnSingles 29 = .ok (.getfield 82, 3) := by decide +kernel
theorem dX0_learnSingles_32 : decode cX0_learnSingles 32 = .ok (.iload_n 3, 1) := by decide +kernel
theorem dX0_learnSingles_33 : decode cX0_learnSingles 33 = .ok (.iaload, 1) := by decide +kernel
theorem dX0_learnSingles_34 : decode cX0_learnSingles 34 = .ok (.invokevirtual 64, 3) := by decide +kernel
theorem dX0_learnSingles_37 : decode cX0_learnSingles 37 = .ok (.iinc 3 1, 3) := by decide +kernel
theorem dX0_learnSingles_40 : decode cX0_learnSingles 40 = .ok (.goto (-33), 3) := by decide +kernel
theorem dX0_learnSingles_43 : decode cX0_learnSingles 43 = .ok (.aload_n 0, 1) := by decide +kernel
theorem dX0_learnSingles_44 : decode cX0_learnSingles 44 = .ok (.invokevirtual 68, 3) := by decide +kernel
theorem dX0_learnSingles_47 : decode cX0_learnSingles 47 = .ok (.aload_n 0, 1) := by decide +kernel
theorem dX0_learnSingles_48 : decode cX0_learnSingles 48 = .ok (.invokevirtual 54, 3) := by decide +kernel
theorem dX0_learnSingles_51 : decode cX0_learnSingles 51 = .ok (.iload_n 2, 1) := by decide +kernel
theorem dX0_learnSingles_52 : decode cX0_learnSingles 52 = .ok (.isub, 1) := by decide +kernel
theorem dX0_learnSingles_53 : decode cX0_learnSingles 53 = .ok (.ireturn, 1) := by decide +kernel
theorem dX0_keepIfRoom_0 : decode cX0_keepIfRoom 0 = .ok (.aload_n 0, 1) := by decide +kernel
theorem dX0_keepIfRoom_1 : decode cX0_keepIfRoom 1 = .ok (.getfield 25, 3) := by decide +kernel
theorem dX0_keepIfRoom_4 : decode cX0_keepIfRoom 4 = .ok (.istore_n 3, 1) := by decide +kernel
theorem dX0_keepIfRoom_5 : decode cX0_keepIfRoom 5 = .ok (.iload_n 3, 1) := by decide +kernel
theorem dX0_keepIfRoom_6 : decode cX0_keepIfRoom 6 = .ok (.iconst 0, 1) := by decide +kernel
theorem dX0_keepIfRoom_7 : decode cX0_keepIfRoom 7 = .ok (.bipush 23, 2) := by decide +kernel
theorem dX0_keepIfRoom_9 : decode cX0_keepIfRoom 9 = .ok (.invokestatic 83, 3) := by decide +kernel
theorem dX0_keepIfRoom_12 : decode cX0_keepIfRoom 12 = .ok (.ifCond .ne 5, 3) := by decide +kernel
theorem dX0_keepIfRoom_15 : decode cX0_keepIfRoom 15 = .ok (.iconst 0, 1) := by decide +kernel
theorem dX0_keepIfRoom_16 : decode cX0_keepIfRoom 16 = .ok (.ireturn, 1) := by decide +kernel
theorem dX0_keepIfRoom_17 : decode cX0_keepIfRoom 17 = .ok (.aload_n 0, 1) := by decide +kernel
theorem dX0_keepIfRoom_18 : decode cX0_keepIfRoom 18 = .ok (.getfield 15, 3) := by decide +kernel
theorem dX0_keepIfRoom_21 : decode cX0_keepIfRoom 21 = .ok (.iload_n 3, 1) := by decide +kernel
theorem dX0_keepIfRoom_22 : decode cX0_keepIfRoom 22 = .ok (.iload_n 1, 1) := by decide +kernel
theorem dX0_keepIfRoom_23 : decode cX0_keepIfRoom 23 = .ok (.iastore, 1) := by decide +kernel
theorem dX0_keepIfRoom_24 : decode cX0_keepIfRoom 24 = .ok (.aload_n 0, 1) := by decide +kernel
theorem dX0_keepIfRoom_25 : decode cX0_keepIfRoom 25 = .ok (.getfield 18, 3) := by decide +kernel
theorem dX0_keepIfRoom_28 : decode cX0_keepIfRoom 28 = .ok (.iload_n 3, 1) := by decide +kernel
theorem dX0_keepIfRoom_29 : decode cX0_keepIfRoom 29 = .ok (.iload_n 2, 1) := by decide +kernel
theorem dX0_keepIfRoom_30 : decode cX0_keepIfRoom 30 = .ok (.iastore, 1) := by decide +kernel
theorem dX0_keepIfRoom_31 : decode cX0_keepIfRoom 31 = .ok (.aload_n 0, 1) := by decide +kernel
theorem dX0_keepIfRoom_32 : decode cX0_keepIfRoom 32 = .ok (.dup, 1) := by decide +kernel
theorem dX0_keepIfRoom_33 : decode cX0_keepIfRoom 33 = .ok (.getfield 25, 3) := by decide +kernel
theorem dX0_keepIfRoom_36 : decode cX0_keepIfRoom 36 = .ok (.iconst 1, 1) := by decide +kernel
theorem dX0_keepIfRoom_37 : decode cX0_keepIfRoom 37 = .ok (.iadd, 1) := by decide +kernel
theorem dX0_keepIfRoom_38 : decode cX0_keepIfRoom 38 = .ok (.putfield 25, 3) := by decide +kernel
theorem dX0_keepIfRoom_41 : decode cX0_keepIfRoom 41 = .ok (.iconst 1, 1) := by decide +kernel
theorem dX0_keepIfRoom_42 : decode cX0_keepIfRoom 42 = .ok (.ireturn, 1) := by decide +kernel
theorem dX0_learn_0 : decode cX0_learn 0 = .ok (.aload_n 0, 1) := by decide +kernel
theorem dX0_learn_1 : decode cX0_learn 1 = .ok (.dup, 1) := by decide +kernel
theorem dX0_learn_2 : decode cX0_learn 2 = .ok (.getfield 21, 3) := by decide +kernel
theorem dX0_learn_5 : decode cX0_learn 5 = .ok (.iload_n 1, 1) := by decide +kernel
theorem dX0_learn_6 : decode cX0_learn 6 = .ok (.ior, 1) := by decide +kernel
theorem dX0_learn_7 : decode cX0_learn 7 = .ok (.putfield 21, 3) := by decide +kernel
theorem dX0_learn_10 : decode cX0_learn 10 = .ok (.iconst 0, 1) := by decide +kernel
theorem dX0_learn_11 : decode cX0_learn 11 = .ok (.istore_n 3, 1) := by decide +kernel
theorem dX0_learn_12 : decode cX0_learn 12 = .ok (.iload_n 3, 1) := by decide +kernel
theorem dX0_learn_13 : decode cX0_learn 13 = .ok (.bipush 16, 2) := by decide +kernel
theorem dX0_learn_15 : decode cX0_learn 15 = .ok (.if_icmp .ge 23, 3) := by decide +kernel
theorem dX0_learn_18 : decode cX0_learn 18 = .ok (.iload_n 1, 1) := by decide +kernel
theorem dX0_learn_19 : decode cX0_learn 19 = .ok (.iconst 1, 1) := by decide +kernel
theorem dX0_learn_20 : decode cX0_learn 20 = .ok (.iload_n 3, 1) := by decide +kernel
theorem dX0_learn_21 : decode cX0_learn 21 = .ok (.ishl, 1) := by decide +kernel
theorem dX0_learn_22 : decode cX0_learn 22 = .ok (.if_icmp .ne 10, 3) := by decide +kernel
theorem dX0_learn_25 : decode cX0_learn 25 = .ok (.aload_n 0, 1) := by decide +kernel
theorem dX0_learn_26 : decode cX0_learn 26 = .ok (.getfield 9, 3) := by decide +kernel
theorem dX0_learn_29 : decode cX0_learn 29 = .ok (.iload_n 3, 1) := by decide +kernel
theorem dX0_learn_30 : decode cX0_learn 30 = .ok (.iload_n 2, 1) := by decide +kernel
theorem dX0_learn_31 : decode cX0_learn 31 = .ok (.iastore, 1) := by decide +kernel
theorem dX0_learn_32 : decode cX0_learn 32 = .ok (.iinc 3 1, 3) := by decide +kernel
theorem dX0_learn_35 : decode cX0_learn 35 = .ok (.goto (-23), 3) := by decide +kernel
theorem dX0_learn_38 : decode cX0_learn 38 = .ok (.iconst 0, 1) := by decide +kernel
theorem dX0_learn_39 : decode cX0_learn 39 = .ok (.istore_n 3, 1) := by decide +kernel
theorem dX0_learn_40 : decode cX0_learn 40 = .ok (.iload_n 3, 1) := by decide +kernel
theorem dX0_learn_41 : decode cX0_learn 41 = .ok (.bipush 24, 2) := by decide +kernel
theorem dX0_learn_43 : decode cX0_learn 43 = .ok (.if_icmp .ge 40, 3) := by decide +kernel
theorem dX0_learn_46 : decode cX0_learn 46 = .ok (.aload_n 0, 1) := by decide +kernel
theorem dX0_learn_47 : decode cX0_learn 47 = .ok (.getfield 15, 3) := by decide +kernel
theorem dX0_learn_50 : decode cX0_learn 50 = .ok (.iload_n 3, 1) := by decide +kernel
theorem dX0_learn_51 : decode cX0_learn 51 = .ok (.iaload, 1) := by decide +kernel
theorem dX0_learn_52 : decode cX0_learn 52 = .ok (.iload_n 1, 1) := by decide +kernel
theorem dX0_learn_53 : decode cX0_learn 53 = .ok (.iand, 1) := by decide +kernel
theorem dX0_learn_54 : decode cX0_learn 54 = .ok (.ifCond .eq 23, 3) := by decide +kernel
theorem dX0_learn_57 : decode cX0_learn 57 = .ok (.aload_n 0, 1) := by decide +kernel
theorem dX0_learn_58 : decode cX0_learn 58 = .ok (.getfield 15, 3) := by decide +kernel
theorem dX0_learn_61 : decode cX0_learn 61 = .ok (.iload_n 3, 1) := by decide +kernel
theorem dX0_learn_62 : decode cX0_learn 62 = .ok (.dup2, 1) := by decide +kernel
theorem dX0_learn_63 : decode cX0_learn 63 = .ok (.iaload, 1) := by decide +kernel
theorem dX0_learn_64 : decode cX0_learn 64 = .ok (.iload_n 1, 1) := by decide +kernel
theorem dX0_learn_65 : decode cX0_learn 65 = .ok (.ixor, 1) := by decide +kernel
theorem dX0_learn_66 : decode cX0_learn 66 = .ok (.iastore, 1) := by decide +kernel
theorem dX0_learn_67 : decode cX0_learn 67 = .ok (.aload_n 0, 1) := by decide +kernel
theorem dX0_learn_68 : decode cX0_learn 68 = .ok (.getfield 18, 3) := by decide +kernel
theorem dX0_learn_71 : decode cX0_learn 71 = .ok (.iload_n 3, 1) := by decide +kernel
theorem dX0_learn_72 : decode cX0_learn 72 = .ok (.dup2, 1) := by decide +kernel
theorem dX0_learn_73 : decode cX0_learn 73 = .ok (.iaload, 1) := by decide +kernel
theorem dX0_learn_74 : decode cX0_learn 74 = .ok (.iload_n 2, 1) := by decide +kernel
theorem dX0_learn_75 : decode cX0_learn 75 = .ok (.ixor, 1) := by decide +kernel
theorem dX0_learn_76 : decode cX0_learn 76 = .ok (.iastore, 1) := by decide +kernel
theorem dX0_learn_77 : decode cX0_learn 77 = .ok (.iinc 3 1, 3) := by decide +kernel
theorem dX0_learn_80 : decode cX0_learn 80 = .ok (.goto (-40), 3) := by decide +kernel
theorem dX0_learn_83 : decode cX0_learn 83 = .ok (.return_, 1) := by decide +kernel
theorem dX0_peel_0 : decode cX0_peel 0 = .ok (.iconst 0, 1) := by decide +kernel
theorem dX0_peel_1 : decode cX0_peel 1 = .ok (.istore_n 1, 1) := by decide +kernel
theorem dX0_peel_2 : decode cX0_peel 2 = .ok (.iload_n 1, 1) := by decide +kernel
theorem dX0_peel_3 : decode cX0_peel 3 = .ok (.bipush 24, 2) := by decide +kernel
theorem dX0_peel_5 : decode cX0_peel 5 = .ok (.if_icmp .ge 56, 3) := by decide +kernel
theorem dX0_peel_8 : decode cX0_peel 8 = .ok (.aload_n 0, 1) := by decide +kernel
theorem dX0_peel_9 : decode cX0_peel 9 = .ok (.invokevirtual 87, 3) := by decide +kernel
theorem dX0_peel_12 : decode cX0_peel 12 = .ok (.istore_n 2, 1) := by decide +kernel
theorem dX0_peel_13 : decode cX0_peel 13 = .ok (.iload_n 2, 1) := by decide +kernel
theorem dX0_peel_14 : decode cX0_peel 14 = .ok (.iconst 0, 1) := by decide +kernel
theorem dX0_peel_15 : decode cX0_peel 15 = .ok (.bipush 23, 2) := by decide +kernel
theorem dX0_peel_17 : decode cX0_peel 17 = .ok (.invokestatic 83, 3) := by decide +kernel
theorem dX0_peel_20 : decode cX0_peel 20 = .ok (.ifCond .ne 4, 3) := by decide +kernel
theorem dX0_peel_23 : decode cX0_peel 23 = .ok (.return_, 1) := by decide +kernel
theorem dX0_peel_24 : decode cX0_peel 24 = .ok (.aload_n 0, 1) := by decide +kernel
theorem dX0_peel_25 : decode cX0_peel 25 = .ok (.getfield 15, 3) := by decide +kernel
theorem dX0_peel_28 : decode cX0_peel 28 = .ok (.iload_n 2, 1) := by decide +kernel
theorem dX0_peel_29 : decode cX0_peel 29 = .ok (.iaload, 1) := by decide +kernel
theorem dX0_peel_30 : decode cX0_peel 30 = .ok (.istore_n 3, 1) := by decide +kernel
theorem dX0_peel_31 : decode cX0_peel 31 = .ok (.aload_n 0, 1) := by decide +kernel
theorem dX0_peel_32 : decode cX0_peel 32 = .ok (.getfield 18, 3) := by decide +kernel
theorem dX0_peel_35 : decode cX0_peel 35 = .ok (.iload_n 2, 1) := by decide +kernel
theorem dX0_peel_36 : decode cX0_peel 36 = .ok (.iaload, 1) := by decide +kernel
theorem dX0_peel_37 : decode cX0_peel 37 = .ok (.istore 4, 2) := by decide +kernel
theorem dX0_peel_39 : decode cX0_peel 39 = .ok (.aload_n 0, 1) := by decide +kernel
theorem dX0_peel_40 : decode cX0_peel 40 = .ok (.iload_n 2, 1) := by decide +kernel
theorem dX0_peel_41 : decode cX0_peel 41 = .ok (.invokevirtual 90, 3) := by decide +kernel
theorem dX0_peel_44 : decode cX0_peel 44 = .ok (.iload_n 3, 1) := by decide +kernel
theorem dX0_peel_45 : decode cX0_peel 45 = .ok (.ifCond .eq 10, 3) := by decide +kernel
theorem dX0_peel_48 : decode cX0_peel 48 = .ok (.aload_n 0, 1) := by decide +kernel
theorem dX0_peel_49 : decode cX0_peel 49 = .ok (.iload_n 3, 1) := by decide +kernel
theorem dX0_peel_50 : decode cX0_peel 50 = .ok (.iload 4, 2) := by decide +kernel
theorem dX0_peel_52 : decode cX0_peel 52 = .ok (.invokevirtual 64, 3) := by decide +kernel
theorem dX0_peel_55 : decode cX0_peel 55 = .ok (.iinc 1 1, 3) := by decide +kernel
theorem dX0_peel_58 : decode cX0_peel 58 = .ok (.goto (-56), 3) := by decide +kernel
theorem dX0_peel_61 : decode cX0_peel 61 = .ok (.return_, 1) := by decide +kernel
theorem dX0_firstPeelable_0 : decode cX0_firstPeelable 0 = .ok (.iconst 0, 1) := by decide +kernel
theorem dX0_firstPeelable_1 : decode cX0_firstPeelable 1 = .ok (.istore_n 1, 1) := by decide +kernel
theorem dX0_firstPeelable_2 : decode cX0_firstPeelable 2 = .ok (.iload_n 1, 1) := by decide +kernel
theorem dX0_firstPeelable_3 : decode cX0_firstPeelable 3 = .ok (.bipush 24, 2) := by decide +kernel
theorem dX0_firstPeelable_5 : decode cX0_firstPeelable 5 = .ok (.if_icmp .ge 32, 3) := by decide +kernel
theorem dX0_firstPeelable_8 : decode cX0_firstPeelable 8 = .ok (.iload_n 1, 1) := by decide +kernel
theorem dX0_firstPeelable_9 : decode cX0_firstPeelable 9 = .ok (.aload_n 0, 1) := by decide +kernel
theorem dX0_firstPeelable_10 : decode cX0_firstPeelable 10 = .ok (.getfield 25, 3) := by decide +kernel
theorem dX0_firstPeelable_13 : decode cX0_firstPeelable 13 = .ok (.if_icmp .ge 18, 3) := by decide +kernel
theorem dX0_firstPeelable_16 : decode cX0_firstPeelable 16 = .ok (.aload_n 0, 1) := by decide +kernel
theorem dX0_firstPeelable_17 : decode cX0_firstPeelable 17 = .ok (.getfield 15, 3) := by decide +kernel
theorem dX0_firstPeelable_20 : decode cX0_firstPeelable 20 = .ok (.iload_n 1, 1) := by decide +kernel
theorem dX0_firstPeelable_21 : decode cX0_firstPeelable 21 = .ok (.iaload, 1) := by decide +kernel
theorem dX0_firstPeelable_22 : decode cX0_firstPeelable 22 = .ok (.invokestatic 43, 3) := by decide +kernel
theorem dX0_firstPeelable_25 : decode cX0_firstPeelable 25 = .ok (.iconst 2, 1) := by decide +kernel
theorem dX0_firstPeelable_26 : decode cX0_firstPeelable 26 = .ok (.if_icmp .ge 5, 3) := by decide +kernel
theorem dX0_firstPeelable_29 : decode cX0_firstPeelable 29 = .ok (.iload_n 1, 1) := by decide +kernel
theorem dX0_firstPeelable_30 : decode cX0_firstPeelable 30 = .ok (.ireturn, 1) := by decide +kernel
theorem dX0_firstPeelable_31 : decode cX0_firstPeelable 31 = .ok (.iinc 1 1, 3) := by decide +kernel
theorem dX0_firstPeelable_34 : decode cX0_firstPeelable 34 = .ok (.goto (-32), 3) := by decide +kernel
theorem dX0_firstPeelable_37 : decode cX0_firstPeelable 37 = .ok (.bipush (-6), 2) := by decide +kernel
theorem dX0_firstPeelable_39 : decode cX0_firstPeelable 39 = .ok (.ireturn, 1) := by decide +kernel
theorem dX0_removeKept_0 : decode cX0_removeKept 0 = .ok (.iconst 0, 1) := by decide +kernel
theorem dX0_removeKept_1 : decode cX0_removeKept 1 = .ok (.istore_n 2, 1) := by decide +kernel
theorem dX0_removeKept_2 : decode cX0_removeKept 2 = .ok (.iload_n 2, 1) := by decide +kernel
theorem dX0_removeKept_3 : decode cX0_removeKept 3 = .ok (.iconst 1, 1) := by decide +kernel
theorem dX0_removeKept_4 : decode cX0_removeKept 4 = .ok (.iadd, 1) := by decide +kernel
theorem dX0_removeKept_5 : decode cX0_removeKept 5 = .ok (.bipush 24, 2) := by decide +kernel
theorem dX0_removeKept_7 : decode cX0_removeKept 7 = .ok (.if_icmp .ge 42, 3) := by decide +kernel
theorem dX0_removeKept_10 : decode cX0_removeKept 10 = .ok (.iload_n 2, 1) := by decide +kernel
theorem dX0_removeKept_11 : decode cX0_removeKept 11 = .ok (.iload_n 1, 1) := by decide +kernel
theorem dX0_removeKept_12 : decode cX0_removeKept 12 = .ok (.if_icmp .lt 31, 3) := by decide +kernel
theorem dX0_removeKept_15 : decode cX0_removeKept 15 = .ok (.aload_n 0, 1) := by decide +kernel
theorem dX0_removeKept_16 : decode cX0_removeKept 16 = .ok (.getfield 15, 3) := by decide +kernel
theorem dX0_removeKept_19 : decode cX0_removeKept 19 = .ok (.iload_n 2, 1) := by decide +kernel
theorem dX0_removeKept_20 : decode cX0_removeKept 20 = .ok (.aload_n 0, 1) := by decide +kernel
theorem dX0_removeKept_21 : decode cX0_removeKept 21 = .ok (.getfield 15, 3) := by decide +kernel
theorem dX0_removeKept_24 : decode cX0_removeKept 24 = .ok (.iload_n 2, 1) := by decide +kernel
theorem dX0_removeKept_25 : decode cX0_removeKept 25 = .ok (.iconst 1, 1) := by decide +kernel
theorem dX0_removeKept_26 : decode cX0_removeKept 26 = .ok (.iadd, 1) := by decide +kernel
theorem dX0_removeKept_27 : decode cX0_removeKept 27 = .ok (.iaload, 1) := by decide +kernel
theorem dX0_removeKept_28 : decode cX0_removeKept 28 = .ok (.iastore, 1) := by decide +kernel
theorem dX0_removeKept_29 : decode cX0_removeKept 29 = .ok (.aload_n 0, 1) := by decide +kernel
theorem dX0_removeKept_30 : decode cX0_removeKept 30 = .ok (.getfield 18, 3) := by decide +kernel
theorem dX0_removeKept_33 : decode cX0_removeKept 33 = .ok (.iload_n 2, 1) := by decide +kernel
theorem dX0_removeKept_34 : decode cX0_removeKept 34 = .ok (.aload_n 0, 1) := by decide +kernel
theorem dX0_removeKept_35 : decode cX0_removeKept 35 = .ok (.getfield 18, 3) := by decide +kernel
theorem dX0_removeKept_38 : decode cX0_removeKept 38 = .ok (.iload_n 2, 1) := by decide +kernel
theorem dX0_removeKept_39 : decode cX0_removeKept 39 = .ok (.iconst 1, 1) := by decide +kernel
theorem dX0_removeKept_40 : decode cX0_removeKept 40 = .ok (.iadd, 1) := by decide +kernel
theorem dX0_removeKept_41 : decode cX0_removeKept 41 = .ok (.iaload, 1) := by decide +kernel
theorem dX0_removeKept_42 : decode cX0_removeKept 42 = .ok (.iastore, 1) := by decide +kernel
theorem dX0_removeKept_43 : decode cX0_removeKept 43 = .ok (.iinc 2 1, 3) := by decide +kernel
theorem dX0_removeKept_46 : decode cX0_removeKept 46 = .ok (.goto (-44), 3) := by decide +kernel
theorem dX0_removeKept_49 : decode cX0_removeKept 49 = .ok (.aload_n 0, 1) := by decide +kernel
theorem dX0_removeKept_50 : decode cX0_removeKept 50 = .ok (.getfield 15, 3) := by decide +kernel
theorem dX0_removeKept_53 : decode cX0_removeKept 53 = .ok (.bipush 23, 2) := by decide +kernel
theorem dX0_removeKept_55 : decode cX0_removeKept 55 = .ok (.iconst 0, 1) := by decide +kernel
theorem dX0_removeKept_56 : decode cX0_removeKept 56 = .ok (.iastore, 1) := by decide +kernel
theorem dX0_removeKept_57 : decode cX0_removeKept 57 = .ok (.aload_n 0, 1) := by decide +kernel
theorem dX0_removeKept_58 : decode cX0_removeKept 58 = .ok (.getfield 18, 3) := by decide +kernel
theorem dX0_removeKept_61 : decode cX0_removeKept 61 = .ok (.bipush 23, 2) := by decide +kernel
theorem dX0_removeKept_63 : decode cX0_removeKept 63 = .ok (.iconst 0, 1) := by decide +kernel
theorem dX0_removeKept_64 : decode cX0_removeKept 64 = .ok (.iastore, 1) := by decide +kernel
theorem dX0_removeKept_65 : decode cX0_removeKept 65 = .ok (.aload_n 0, 1) := by decide +kernel
theorem dX0_removeKept_66 : decode cX0_removeKept 66 = .ok (.dup, 1) := by decide +kernel
theorem dX0_removeKept_67 : decode cX0_removeKept 67 = .ok (.getfield 25, 3) := by decide +kernel
theorem dX0_removeKept_70 : decode cX0_removeKept 70 = .ok (.iconst 1, 1) := by decide +kernel
theorem dX0_removeKept_71 : decode cX0_removeKept 71 = .ok (.isub, 1) := by decide +kernel
theorem dX0_removeKept_72 : decode cX0_removeKept 72 = .ok (.putfield 25, 3) := by decide +kernel
theorem dX0_removeKept_75 : decode cX0_removeKept 75 = .ok (.return_, 1) := by decide +kernel
theorem dX1_init_0 : decode cX1_init 0 = .ok (.aload_n 0, 1) := by decide +kernel
theorem dX1_init_1 : decode cX1_init 1 = .ok (.invokespecial 3, 3) := by decide +kernel
theorem dX1_init_4 : decode cX1_init 4 = .ok (.return_, 1) := by decide +kernel
theorem dX1_makeFrom_0 : decode cX1_makeFrom 0 = .ok (.aload_n 0, 1) := by decide +kernel
theorem dX1_makeFrom_1 : decode cX1_makeFrom 1 = .ok (.iconst 0, 1) := by decide +kernel
theorem dX1_makeFrom_2 : decode cX1_makeFrom 2 = .ok (.putfield 9, 3) := by decide +kernel
theorem dX1_makeFrom_5 : decode cX1_makeFrom 5 = .ok (.aload_n 0, 1) := by decide +kernel
theorem dX1_makeFrom_6 : decode cX1_makeFrom 6 = .ok (.iconst 0, 1) := by decide +kernel
theorem dX1_makeFrom_7 : decode cX1_makeFrom 7 = .ok (.putfield 15, 3) := by decide +kernel
theorem dX1_makeFrom_10 : decode cX1_makeFrom 10 = .ok (.aload_n 0, 1) := by decide +kernel
theorem dX1_makeFrom_11 : decode cX1_makeFrom 11 = .ok (.iconst 0, 1) := by decide +kernel
theorem dX1_makeFrom_12 : decode cX1_makeFrom 12 = .ok (.putfield 19, 3) := by decide +kernel
theorem dX1_makeFrom_15 : decode cX1_makeFrom 15 = .ok (.aload_n 0, 1) := by decide +kernel
theorem dX1_makeFrom_16 : decode cX1_makeFrom 16 = .ok (.iconst 0, 1) := by decide +kernel
theorem dX1_makeFrom_17 : decode cX1_makeFrom 17 = .ok (.putfield 22, 3) := by decide +kernel
theorem dX1_makeFrom_20 : decode cX1_makeFrom 20 = .ok (.aload_n 1, 1) := by decide +kernel
theorem dX1_makeFrom_21 : decode cX1_makeFrom 21 = .ok (.getfield 25, 3) := by decide +kernel
theorem dX1_makeFrom_24 : decode cX1_makeFrom 24 = .ok (.istore_n 3, 1) := by decide +kernel
theorem dX1_makeFrom_25 : decode cX1_makeFrom 25 = .ok (.iload_n 3, 1) := by decide +kernel
theorem dX1_makeFrom_26 : decode cX1_makeFrom 26 = .ok (.ifCond .gt 4, 3) := by decide +kernel
theorem dX1_makeFrom_29 : decode cX1_makeFrom 29 = .ok (.return_, 1) := by decide +kernel
theorem dX1_makeFrom_30 : decode cX1_makeFrom 30 = .ok (.iload_n 2, 1) := by decide +kernel
theorem dX1_makeFrom_31 : decode cX1_makeFrom 31 = .ok (.invokestatic 30, 3) := by decide +kernel
theorem dX1_makeFrom_34 : decode cX1_makeFrom 34 = .ok (.istore 4, 2) := by decide +kernel
theorem dX1_makeFrom_36 : decode cX1_makeFrom 36 = .ok (.aload_n 0, 1) := by decide +kernel
theorem dX1_makeFrom_37 : decode cX1_makeFrom 37 = .ok (.iload 4, 2) := by decide +kernel
theorem dX1_makeFrom_39 : decode cX1_makeFrom 39 = .ok (.bipush 100, 2) := by decide +kernel
theorem dX1_makeFrom_41 : decode cX1_makeFrom 41 = .ok (.irem, 1) := by decide +kernel
theorem dX1_makeFrom_42 : decode cX1_makeFrom 42 = .ok (.aload_n 1, 1) := by decide +kernel
theorem dX1_makeFrom_43 : decode cX1_makeFrom 43 = .ok (.getfield 34, 3) := by decide +kernel
theorem dX1_makeFrom_46 : decode cX1_makeFrom 46 = .ok (.if_icmp .ge 7, 3) := by decide +kernel
theorem dX1_makeFrom_49 : decode cX1_makeFrom 49 = .ok (.iconst 1, 1) := by decide +kernel
theorem dX1_makeFrom_50 : decode cX1_makeFrom 50 = .ok (.goto 4, 3) := by decide +kernel
theorem dX1_makeFrom_53 : decode cX1_makeFrom 53 = .ok (.iconst 0, 1) := by decide +kernel
theorem dX1_makeFrom_54 : decode cX1_makeFrom 54 = .ok (.putfield 9, 3) := by decide +kernel
theorem dX1_makeFrom_57 : decode cX1_makeFrom 57 = .ok (.iload 4, 2) := by decide +kernel
theorem dX1_makeFrom_59 : decode cX1_makeFrom 59 = .ok (.invokestatic 30, 3) := by decide +kernel
theorem dX1_makeFrom_62 : decode cX1_makeFrom 62 = .ok (.istore 4, 2) := by decide +kernel
theorem dX1_makeFrom_64 : decode cX1_makeFrom 64 = .ok (.aload_n 0, 1) := by decide +kernel
theorem dX1_makeFrom_65 : decode cX1_makeFrom 65 = .ok (.aload_n 1, 1) := by decide +kernel
theorem dX1_makeFrom_66 : decode cX1_makeFrom 66 = .ok (.getfield 37, 3) := by decide +kernel
theorem dX1_makeFrom_69 : decode cX1_makeFrom 69 = .ok (.iload 4, 2) := by decide +kernel
theorem dX1_makeFrom_71 : decode cX1_makeFrom 71 = .ok (.iload_n 3, 1) := by decide +kernel
theorem dX1_makeFrom_72 : decode cX1_makeFrom 72 = .ok (.invokestatic 40, 3) := by decide +kernel
theorem dX1_makeFrom_75 : decode cX1_makeFrom 75 = .ok (.putfield 15, 3) := by decide +kernel
theorem dX1_makeFrom_78 : decode cX1_makeFrom 78 = .ok (.iconst 0, 1) := by decide +kernel
theorem dX1_makeFrom_79 : decode cX1_makeFrom 79 = .ok (.istore 5, 2) := by decide +kernel
theorem dX1_makeFrom_81 : decode cX1_makeFrom 81 = .ok (.iload 5, 2) := by decide +kernel
theorem dX1_makeFrom_83 : decode cX1_makeFrom 83 = .ok (.aload_n 0, 1) := by decide +kernel
theorem dX1_makeFrom_84 : decode cX1_makeFrom 84 = .ok (.getfield 15, 3) := by decide +kernel
theorem dX1_makeFrom_87 : decode cX1_makeFrom 87 = .ok (.if_icmp .ge 25, 3) := by decide +kernel
theorem dX1_makeFrom_90 : decode cX1_makeFrom 90 = .ok (.iload 4, 2) := by decide +kernel
theorem dX1_makeFrom_92 : decode cX1_makeFrom 92 = .ok (.invokestatic 30, 3) := by decide +kernel
theorem dX1_makeFrom_95 : decode cX1_makeFrom 95 = .ok (.istore 4, 2) := by decide +kernel
theorem dX1_makeFrom_97 : decode cX1_makeFrom 97 = .ok (.aload_n 0, 1) := by decide +kernel
theorem dX1_makeFrom_98 : decode cX1_makeFrom 98 = .ok (.aload_n 1, 1) := by decide +kernel
theorem dX1_makeFrom_99 : decode cX1_makeFrom 99 = .ok (.iload 4, 2) := by decide +kernel
theorem dX1_makeFrom_101 : decode cX1_makeFrom 101 = .ok (.iload_n 3, 1) := by decide +kernel
theorem dX1_makeFrom_102 : decode cX1_makeFrom 102 = .ok (.irem, 1) := by decide +kernel
theorem dX1_makeFrom_103 : decode cX1_makeFrom 103 = .ok (.invokevirtual 44, 3) := by decide +kernel
theorem dX1_makeFrom_106 : decode cX1_makeFrom 106 = .ok (.iinc 5 1, 3) := by decide +kernel
theorem dX1_makeFrom_109 : decode cX1_makeFrom 109 = .ok (.goto (-28), 3) := by decide +kernel
theorem dX1_makeFrom_112 : decode cX1_makeFrom 112 = .ok (.return_, 1) := by decide +kernel
theorem dX1_addFrom_0 : decode cX1_addFrom 0 = .ok (.iload_n 2, 1) := by decide +kernel
theorem dX1_addFrom_1 : decode cX1_addFrom 1 = .ok (.istore_n 3, 1) := by decide +kernel
theorem dX1_addFrom_2 : decode cX1_addFrom 2 = .ok (.iconst 0, 1) := by decide +kernel
theorem dX1_addFrom_3 : decode cX1_addFrom 3 = .ok (.istore 4, 2) := by decide +kernel
theorem dX1_addFrom_5 : decode cX1_addFrom 5 = .ok (.iload 4, 2) := by decide +kernel
theorem dX1_addFrom_7 : decode cX1_addFrom 7 = .ok (.bipush 16, 2) := by decide +kernel
theorem dX1_addFrom_9 : decode cX1_addFrom 9 = .ok (.if_icmp .ge 38, 3) := by decide +kernel
theorem dX1_addFrom_12 : decode cX1_addFrom 12 = .ok (.aload_n 0, 1) := by decide +kernel
theorem dX1_addFrom_13 : decode cX1_addFrom 13 = .ok (.getfield 19, 3) := by decide +kernel
theorem dX1_addFrom_16 : decode cX1_addFrom 16 = .ok (.iconst 1, 1) := by decide +kernel
theorem dX1_addFrom_17 : decode cX1_addFrom 17 = .ok (.iload_n 3, 1) := by decide +kernel
theorem dX1_addFrom_18 : decode cX1_addFrom 18 = .ok (.ishl, 1) := by decide +kernel
theorem dX1_addFrom_19 : decode cX1_addFrom 19 = .ok (.iand, 1) := by decide +kernel
theorem dX1_addFrom_20 : decode cX1_addFrom 20 = .ok (.ifCond .eq 27, 3) := by decide +kernel
theorem dX1_addFrom_23 : decode cX1_addFrom 23 = .ok (.iload_n 3, 1) := by decide +kernel
theorem dX1_addFrom_24 : decode cX1_addFrom 24 = .ok (.iconst 1, 1) := by decide +kernel
theorem dX1_addFrom_25 : decode cX1_addFrom 25 = .ok (.iadd, 1) := by decide +kernel
theorem dX1_addFrom_26 : decode cX1_addFrom 26 = .ok (.aload_n 1, 1) := by decide +kernel
theorem dX1_addFrom_27 : decode cX1_addFrom 27 = .ok (.getfield 25, 3) := by decide +kernel
theorem dX1_addFrom_30 : decode cX1_addFrom 30 = .ok (.if_icmp .ge 9, 3) := by decide +kernel
theorem dX1_addFrom_33 : decode cX1_addFrom 33 = .ok (.iload_n 3, 1) := by decide +kernel
theorem dX1_addFrom_34 : decode cX1_addFrom 34 = .ok (.iconst 1, 1) := by decide +kernel
theorem dX1_addFrom_35 : decode cX1_addFrom 35 = .ok (.iadd, 1) := by decide +kernel
theorem dX1_addFrom_36 : decode cX1_addFrom 36 = .ok (.goto 4, 3) := by decide +kernel
theorem dX1_addFrom_39 : decode cX1_addFrom 39 = .ok (.iconst 0, 1) := by decide +kernel
theorem dX1_addFrom_40 : decode cX1_addFrom 40 = .ok (.istore_n 3, 1) := by decide +kernel
theorem dX1_addFrom_41 : decode cX1_addFrom 41 = .ok (.iinc 4 1, 3) := by decide +kernel
theorem dX1_addFrom_44 : decode cX1_addFrom 44 = .ok (.goto (-39), 3) := by decide +kernel
theorem dX1_addFrom_47 : decode cX1_addFrom 47 = .ok (.iload_n 3, 1) := by decide +kernel
theorem dX1_addFrom_48 : decode cX1_addFrom 48 = .ok (.iconst 0, 1) := by decide +kernel
theorem dX1_addFrom_49 : decode cX1_addFrom 49 = .ok (.bipush 15, 2) := by decide +kernel
theorem dX1_addFrom_51 : decode cX1_addFrom 51 = .ok (.invokestatic 48, 3) := by decide +kernel
theorem dX1_addFrom_54 : decode cX1_addFrom 54 = .ok (.ifCond .eq 30, 3) := by decide +kernel
theorem dX1_addFrom_57 : decode cX1_addFrom 57 = .ok (.aload_n 0, 1) := by decide +kernel
theorem dX1_addFrom_58 : decode cX1_addFrom 58 = .ok (.dup, 1) := by decide +kernel
theorem dX1_addFrom_59 : decode cX1_addFrom 59 = .ok (.getfield 19, 3) := by decide +kernel
theorem dX1_addFrom_62 : decode cX1_addFrom 62 = .ok (.iconst 1, 1) := by decide +kernel
theorem dX1_addFrom_63 : decode cX1_addFrom 63 = .ok (.iload_n 3, 1) := by decide +kernel
theorem dX1_addFrom_64 : decode cX1_addFrom 64 = .ok (.ishl, 1) := by decide +kernel
theorem dX1_addFrom_65 : decode cX1_addFrom 65 = .ok (.ior, 1) := by decide +kernel
theorem dX1_addFrom_66 : decode cX1_addFrom 66 = .ok (.putfield 19, 3) := by decide +kernel
theorem dX1_addFrom_69 : decode cX1_addFrom 69 = .ok (.aload_n 0, 1) := by decide +kernel
theorem dX1_addFrom_70 : decode cX1_addFrom 70 = .ok (.dup, 1) := by decide +kernel
theorem dX1_addFrom_71 : decode cX1_addFrom 71 = .ok (.getfield 22, 3) := by decide +kernel
theorem dX1_addFrom_74 : decode cX1_addFrom 74 = .ok (.aload_n 1, 1) := by decide +kernel
theorem dX1_addFrom_75 : decode cX1_addFrom 75 = .ok (.getfield 52, 3) := by decide +kernel
theorem dX1_addFrom_78 : decode cX1_addFrom 78 = .ok (.iload_n 3, 1) := by decide +kernel
theorem dX1_addFrom_79 : decode cX1_addFrom 79 = .ok (.iaload, 1) := by decide +kernel
theorem dX1_addFrom_80 : decode cX1_addFrom 80 = .ok (.ixor, 1) := by decide +kernel
theorem dX1_addFrom_81 : decode cX1_addFrom 81 = .ok (.putfield 22, 3) := by decide +kernel
theorem dX1_addFrom_84 : decode cX1_addFrom 84 = .ok (.return_, 1) := by decide +kernel
theorem dX1_nextDraw_0 : decode cX1_nextDraw 0 = .ok (.bipush 75, 2) := by decide +kernel
theorem dX1_nextDraw_2 : decode cX1_nextDraw 2 = .ok (.iload_n 0, 1) := by decide +kernel
theorem dX1_nextDraw_3 : decode cX1_nextDraw 3 = .ok (.imul, 1) := by decide +kernel
theorem dX1_nextDraw_4 : decode cX1_nextDraw 4 = .ok (.bipush 74, 2) := by decide +kernel
theorem dX1_nextDraw_6 : decode cX1_nextDraw 6 = .ok (.iadd, 1) := by decide +kernel
theorem dX1_nextDraw_7 : decode cX1_nextDraw 7 = .ok (.ldc 56, 2) := by decide +kernel
theorem dX1_nextDraw_9 : decode cX1_nextDraw 9 = .ok (.irem, 1) := by decide +kernel
theorem dX1_nextDraw_10 : decode cX1_nextDraw 10 = .ok (.ireturn, 1) := by decide +kernel
theorem dX1_degreeBy_0 : decode cX1_degreeBy 0 = .ok (.iload_n 0, 1) := by decide +kernel
theorem dX1_degreeBy_1 : decode cX1_degreeBy 1 = .ok (.iconst 1, 1) := by decide +kernel
theorem dX1_degreeBy_2 : decode cX1_degreeBy 2 = .ok (.if_icmp .ne 15, 3) := by decide +kernel
theorem dX1_degreeBy_5 : decode cX1_degreeBy 5 = .ok (.iload_n 1, 1) := by decide +kernel
theorem dX1_degreeBy_6 : decode cX1_degreeBy 6 = .ok (.bipush 24, 2) := by decide +kernel
theorem dX1_degreeBy_8 : decode cX1_degreeBy 8 = .ok (.irem, 1) := by decide +kernel
theorem dX1_degreeBy_9 : decode cX1_degreeBy 9 = .ok (.invokestatic 57, 3) := by decide +kernel
theorem dX1_degreeBy_12 : decode cX1_degreeBy 12 = .ok (.iload_n 2, 1) := by decide +kernel
theorem dX1_degreeBy_13 : decode cX1_degreeBy 13 = .ok (.invokestatic 60, 3) := by decide +kernel
theorem dX1_degreeBy_16 : decode cX1_degreeBy 16 = .ok (.ireturn, 1) := by decide +kernel
theorem dX1_degreeBy_17 : decode cX1_degreeBy 17 = .ok (.iload_n 0, 1) := by decide +kernel
theorem dX1_degreeBy_18 : decode cX1_degreeBy 18 = .ok (.iconst 2, 1) := by decide +kernel
theorem dX1_degreeBy_19 : decode cX1_degreeBy 19 = .ok (.if_icmp .ne 15, 3) := by decide +kernel
theorem dX1_degreeBy_22 : decode cX1_degreeBy 22 = .ok (.iload_n 1, 1) := by decide +kernel
theorem dX1_degreeBy_23 : decode cX1_degreeBy 23 = .ok (.iconst 4, 1) := by decide +kernel
theorem dX1_degreeBy_24 : decode cX1_degreeBy 24 = .ok (.irem, 1) := by decide +kernel
theorem dX1_degreeBy_25 : decode cX1_degreeBy 25 = .ok (.ifCond .ne 7, 3) := by decide +kernel
theorem dX1_degreeBy_28 : decode cX1_degreeBy 28 = .ok (.iconst 1, 1) := by decide +kernel
theorem dX1_degreeBy_29 : decode cX1_degreeBy 29 = .ok (.goto 4, 3) := by decide +kernel
theorem dX1_degreeBy_32 : decode cX1_degreeBy 32 = .ok (.iload_n 2, 1) := by decide +kernel
theorem dX1_degreeBy_33 : decode cX1_degreeBy 33 = .ok (.ireturn, 1) := by decide +kernel
theorem dX1_degreeBy_34 : decode cX1_degreeBy 34 = .ok (.iload_n 2, 1) := by decide +kernel
theorem dX1_degreeBy_35 : decode cX1_degreeBy 35 = .ok (.ifCond .le 11, 3) := by decide +kernel
theorem dX1_degreeBy_38 : decode cX1_degreeBy 38 = .ok (.iconst 1, 1) := by decide +kernel
theorem dX1_degreeBy_39 : decode cX1_degreeBy 39 = .ok (.iload_n 1, 1) := by decide +kernel
theorem dX1_degreeBy_40 : decode cX1_degreeBy 40 = .ok (.iload_n 2, 1) := by decide +kernel
theorem dX1_degreeBy_41 : decode cX1_degreeBy 41 = .ok (.irem, 1) := by decide +kernel
theorem dX1_degreeBy_42 : decode cX1_degreeBy 42 = .ok (.iadd, 1) := by decide +kernel
theorem dX1_degreeBy_43 : decode cX1_degreeBy 43 = .ok (.goto 4, 3) := by decide +kernel
theorem dX1_degreeBy_46 : decode cX1_degreeBy 46 = .ok (.iconst 0, 1) := by decide +kernel
theorem dX1_degreeBy_47 : decode cX1_degreeBy 47 = .ok (.ireturn, 1) := by decide +kernel
theorem dX1_commonDegree_0 : decode cX1_commonDegree 0 = .ok (.iload_n 0, 1) := by decide +kernel
theorem dX1_commonDegree_1 : decode cX1_commonDegree 1 = .ok (.iconst 4, 1) := by decide +kernel
theorem dX1_commonDegree_2 : decode cX1_commonDegree 2 = .ok (.if_icmp .ge 5, 3) := by decide +kernel
theorem dX1_commonDegree_5 : decode cX1_commonDegree 5 = .ok (.iconst 1, 1) := by decide +kernel
theorem dX1_commonDegree_6 : decode cX1_commonDegree 6 = .ok (.ireturn, 1) := by decide +kernel
theorem dX1_commonDegree_7 : decode cX1_commonDegree 7 = .ok (.iload_n 0, 1) := by decide +kernel
theorem dX1_commonDegree_8 : decode cX1_commonDegree 8 = .ok (.bipush 16, 2) := by decide +kernel
theorem dX1_commonDegree_10 : decode cX1_commonDegree 10 = .ok (.if_icmp .ge 5, 3) := by decide +kernel
theorem dX1_commonDegree_13 : decode cX1_commonDegree 13 = .ok (.iconst 2, 1) := by decide +kernel
theorem dX1_commonDegree_14 : decode cX1_commonDegree 14 = .ok (.ireturn, 1) := by decide +kernel
theorem dX1_commonDegree_15 : decode cX1_commonDegree 15 = .ok (.iload_n 0, 1) := by decide +kernel
theorem dX1_commonDegree_16 : decode cX1_commonDegree 16 = .ok (.bipush 20, 2) := by decide +kernel
theorem dX1_commonDegree_18 : decode cX1_commonDegree 18 = .ok (.if_icmp .ge 7, 3) := by decide +kernel
theorem dX1_commonDegree_21 : decode cX1_commonDegree 21 = .ok (.iconst 3, 1) := by decide +kernel
theorem dX1_commonDegree_22 : decode cX1_commonDegree 22 = .ok (.goto 4, 3) := by decide +kernel
theorem dX1_commonDegree_25 : decode cX1_commonDegree 25 = .ok (.iconst 4, 1) := by decide +kernel
theorem dX1_commonDegree_26 : decode cX1_commonDegree 26 = .ok (.ireturn, 1) := by decide +kernel
theorem dX2_init_0 : decode cX2_init 0 = .ok (.aload_n 0, 1) := by decide +kernel
theorem dX2_init_1 : decode cX2_init 1 = .ok (.invokespecial 3, 3) := by decide +kernel
theorem dX2_init_4 : decode cX2_init 4 = .ok (.aload_n 0, 1) := by decide +kernel
theorem dX2_init_5 : decode cX2_init 5 = .ok (.bipush 7, 2) := by decide +kernel
theorem dX2_init_7 : decode cX2_init 7 = .ok (.anewarray 11, 3) := by decide +kernel
theorem dX2_init_10 : decode cX2_init 10 = .ok (.putfield 13, 3) := by decide +kernel
theorem dX2_init_13 : decode cX2_init 13 = .ok (.iconst 0, 1) := by decide +kernel
theorem dX2_init_14 : decode cX2_init 14 = .ok (.istore_n 1, 1) := by decide +kernel
theorem dX2_init_15 : decode cX2_init 15 = .ok (.iload_n 1, 1) := by decide +kernel
theorem dX2_init_16 : decode cX2_init 16 = .ok (.bipush 7, 2) := by decide +kernel
theorem dX2_init_18 : decode cX2_init 18 = .ok (.if_icmp .ge 22, 3) := by decide +kernel
theorem dX2_init_21 : decode cX2_init 21 = .ok (.aload_n 0, 1) := by decide +kernel
theorem dX2_init_22 : decode cX2_init 22 = .ok (.getfield 13, 3) := by decide +kernel
theorem dX2_init_25 : decode cX2_init 25 = .ok (.iload_n 1, 1) := by decide +kernel
theorem dX2_init_26 : decode cX2_init 26 = .ok (.new 11, 3) := by decide +kernel
theorem dX2_init_29 : decode cX2_init 29 = .ok (.dup, 1) := by decide +kernel
theorem dX2_init_30 : decode cX2_init 30 = .ok (.invokespecial 17, 3) := by decide +kernel
theorem dX2_init_33 : decode cX2_init 33 = .ok (.aastore, 1) := by decide +kernel
theorem dX2_init_34 : decode cX2_init 34 = .ok (.iinc 1 1, 3) := by decide +kernel
theorem dX2_init_37 : decode cX2_init 37 = .ok (.goto (-22), 3) := by decide +kernel
theorem dX2_init_40 : decode cX2_init 40 = .ok (.return_, 1) := by decide +kernel
theorem dX2_note_0 : decode cX2_note 0 = .ok (.aload_n 0, 1) := by decide +kernel
theorem dX2_note_1 : decode cX2_note 1 = .ok (.getfield 13, 3) := by decide +kernel
theorem dX2_note_4 : decode cX2_note 4 = .ok (.aload_n 0, 1) := by decide +kernel
theorem dX2_note_5 : decode cX2_note 5 = .ok (.invokevirtual 18, 3) := by decide +kernel
theorem dX2_note_8 : decode cX2_note 8 = .ok (.aaload, 1) := by decide +kernel
theorem dX2_note_9 : decode cX2_note 9 = .ok (.astore_n 2, 1) := by decide +kernel
theorem dX2_note_10 : decode cX2_note 10 = .ok (.aload_n 2, 1) := by decide +kernel
theorem dX2_note_11 : decode cX2_note 11 = .ok (.ifnull 8, 3) := by decide +kernel
theorem dX2_note_14 : decode cX2_note 14 = .ok (.aload_n 2, 1) := by decide +kernel
theorem dX2_note_15 : decode cX2_note 15 = .ok (.aload_n 1, 1) := by decide +kernel
theorem dX2_note_16 : decode cX2_note 16 = .ok (.invokevirtual 22, 3) := by decide +kernel
theorem dX2_note_19 : decode cX2_note 19 = .ok (.return_, 1) := by decide +kernel
theorem dX2_keepUnlessError_0 : decode cX2_keepUnlessError 0 = .ok (.iload_n 1, 1) := by decide +kernel
theorem dX2_keepUnlessError_1 : decode cX2_keepUnlessError 1 = .ok (.ifCond .ge 5, 3) := by decide +kernel
theorem dX2_keepUnlessError_4 : decode cX2_keepUnlessError 4 = .ok (.iload_n 1, 1) := by decide +kernel
theorem dX2_keepUnlessError_5 : decode cX2_keepUnlessError 5 = .ok (.ireturn, 1) := by decide +kernel
theorem dX2_keepUnlessError_6 : decode cX2_keepUnlessError 6 = .ok (.aload_n 0, 1) := by decide +kernel
theorem dX2_keepUnlessError_7 : decode cX2_keepUnlessError 7 = .ok (.getfield 26, 3) := by decide +kernel
theorem dX2_keepUnlessError_10 : decode cX2_keepUnlessError 10 = .ok (.bipush 6, 2) := by decide +kernel
theorem dX2_keepUnlessError_12 : decode cX2_keepUnlessError 12 = .ok (.if_icmp .ge 16, 3) := by decide +kernel
theorem dX2_keepUnlessError_15 : decode cX2_keepUnlessError 15 = .ok (.aload_n 0, 1) := by decide +kernel
theorem dX2_keepUnlessError_16 : decode cX2_keepUnlessError 16 = .ok (.dup, 1) := by decide +kernel
theorem dX2_keepUnlessError_17 : decode cX2_keepUnlessError 17 = .ok (.getfield 26, 3) := by decide +kernel
theorem dX2_keepUnlessError_20 : decode cX2_keepUnlessError 20 = .ok (.iconst 1, 1) := by decide +kernel
theorem dX2_keepUnlessError_21 : decode cX2_keepUnlessError 21 = .ok (.iadd, 1) := by decide +kernel
theorem dX2_keepUnlessError_22 : decode cX2_keepUnlessError 22 = .ok (.putfield 26, 3) := by decide +kernel
theorem dX2_keepUnlessError_25 : decode cX2_keepUnlessError 25 = .ok (.goto 18, 3) := by decide +kernel
theorem dX2_keepUnlessError_28 : decode cX2_keepUnlessError 28 = .ok (.aload_n 0, 1) := by decide +kernel
theorem dX2_keepUnlessError_29 : decode cX2_keepUnlessError 29 = .ok (.aload_n 0, 1) := by decide +kernel
theorem dX2_keepUnlessError_30 : decode cX2_keepUnlessError 30 = .ok (.getfield 30, 3) := by decide +kernel
theorem dX2_keepUnlessError_33 : decode cX2_keepUnlessError 33 = .ok (.iconst 1, 1) := by decide +kernel
theorem dX2_keepUnlessError_34 : decode cX2_keepUnlessError 34 = .ok (.iadd, 1) := by decide +kernel
theorem dX2_keepUnlessError_35 : decode cX2_keepUnlessError 35 = .ok (.bipush 7, 2) := by decide +kernel
theorem dX2_keepUnlessError_37 : decode cX2_keepUnlessError 37 = .ok (.invokestatic 33, 3) := by decide +kernel
theorem dX2_keepUnlessError_40 : decode cX2_keepUnlessError 40 = .ok (.putfield 30, 3) := by decide +kernel
theorem dX2_keepUnlessError_43 : decode cX2_keepUnlessError 43 = .ok (.iload_n 1, 1) := by decide +kernel
theorem dX2_keepUnlessError_44 : decode cX2_keepUnlessError 44 = .ok (.ireturn, 1) := by decide +kernel
theorem dX2_placeBehindLast_0 : decode cX2_placeBehindLast 0 = .ok (.aload_n 0, 1) := by decide +kernel
theorem dX2_placeBehindLast_1 : decode cX2_placeBehindLast 1 = .ok (.getfield 30, 3) := by decide +kernel
theorem dX2_placeBehindLast_4 : decode cX2_placeBehindLast 4 = .ok (.aload_n 0, 1) := by decide +kernel
theorem dX2_placeBehindLast_5 : decode cX2_placeBehindLast 5 = .ok (.getfield 26, 3) := by decide +kernel
theorem dX2_placeBehindLast_8 : decode cX2_placeBehindLast 8 = .ok (.iadd, 1) := by decide +kernel
theorem dX2_placeBehindLast_9 : decode cX2_placeBehindLast 9 = .ok (.bipush 7, 2) := by decide +kernel
theorem dX2_placeBehindLast_11 : decode cX2_placeBehindLast 11 = .ok (.invokestatic 33, 3) := by decide +kernel
theorem dX2_placeBehindLast_14 : decode cX2_placeBehindLast 14 = .ok (.ireturn, 1) := by decide +kernel
theorem dX3_init_0 : decode cX3_init 0 = .ok (.aload_n 0, 1) := by decide +kernel
theorem dX3_init_1 : decode cX3_init 1 = .ok (.invokespecial 3, 3) := by decide +kernel
theorem dX3_init_4 : decode cX3_init 4 = .ok (.aload_n 0, 1) := by decide +kernel
theorem dX3_init_5 : decode cX3_init 5 = .ok (.bipush 80, 2) := by decide +kernel
theorem dX3_init_7 : decode cX3_init 7 = .ok (.newarray .char, 2) := by decide +kernel
theorem dX3_init_9 : decode cX3_init 9 = .ok (.putfield 9, 3) := by decide +kernel
theorem dX3_init_12 : decode cX3_init 12 = .ok (.return_, 1) := by decide +kernel
theorem dX4_init_0 : decode cX4_init 0 = .ok (.aload_n 0, 1) := by decide +kernel
theorem dX4_init_1 : decode cX4_init 1 = .ok (.invokespecial 3, 3) := by decide +kernel
theorem dX4_init_4 : decode cX4_init 4 = .ok (.aload_n 0, 1) := by decide +kernel
theorem dX4_init_5 : decode cX4_init 5 = .ok (.bipush 24, 2) := by decide +kernel
theorem dX4_init_7 : decode cX4_init 7 = .ok (.newarray .int, 2) := by decide +kernel
theorem dX4_init_9 : decode cX4_init 9 = .ok (.putfield 9, 3) := by decide +kernel
theorem dX4_init_12 : decode cX4_init 12 = .ok (.aload_n 0, 1) := by decide +kernel
theorem dX4_init_13 : decode cX4_init 13 = .ok (.bipush 24, 2) := by decide +kernel
theorem dX4_init_15 : decode cX4_init 15 = .ok (.newarray .int, 2) := by decide +kernel
theorem dX4_init_17 : decode cX4_init 17 = .ok (.putfield 15, 3) := by decide +kernel
theorem dX4_init_20 : decode cX4_init 20 = .ok (.return_, 1) := by decide +kernel
theorem dX4_reduce_0 : decode cX4_reduce 0 = .ok (.aload_n 1, 1) := by decide +kernel
theorem dX4_reduce_1 : decode cX4_reduce 1 = .ok (.getfield 18, 3) := by decide +kernel
theorem dX4_reduce_4 : decode cX4_reduce 4 = .ok (.iconst 0, 1) := by decide +kernel
theorem dX4_reduce_5 : decode cX4_reduce 5 = .ok (.aload_n 0, 1) := by decide +kernel
theorem dX4_reduce_6 : decode cX4_reduce 6 = .ok (.getfield 9, 3) := by decide +kernel
theorem dX4_reduce_9 : decode cX4_reduce 9 = .ok (.iconst 0, 1) := by decide +kernel
theorem dX4_reduce_10 : decode cX4_reduce 10 = .ok (.bipush 24, 2) := by decide +kernel
theorem dX4_reduce_12 : decode cX4_reduce 12 = .ok (.invokestatic 21, 3) := by decide +kernel
theorem dX4_reduce_15 : decode cX4_reduce 15 = .ok (.aload_n 1, 1) := by decide +kernel
theorem dX4_reduce_16 : decode cX4_reduce 16 = .ok (.getfield 27, 3) := by decide +kernel
theorem dX4_reduce_19 : decode cX4_reduce 19 = .ok (.iconst 0, 1) := by decide +kernel
theorem dX4_reduce_20 : decode cX4_reduce 20 = .ok (.aload_n 0, 1) := by decide +kernel
theorem dX4_reduce_21 : decode cX4_reduce 21 = .ok (.getfield 15, 3) := by decide +kernel
theorem dX4_reduce_24 : decode cX4_reduce 24 = .ok (.iconst 0, 1) := by decide +kernel
theorem dX4_reduce_25 : decode cX4_reduce 25 = .ok (.bipush 24, 2) := by decide +kernel
theorem dX4_reduce_27 : decode cX4_reduce 27 = .ok (.invokestatic 21, 3) := by decide +kernel
theorem dX4_reduce_30 : decode cX4_reduce 30 = .ok (.iconst 0, 1) := by decide +kernel
theorem dX4_reduce_31 : decode cX4_reduce 31 = .ok (.istore_n 2, 1) := by decide +kernel
theorem dX4_reduce_32 : decode cX4_reduce 32 = .ok (.iload_n 2, 1) := by decide +kernel
theorem dX4_reduce_33 : decode cX4_reduce 33 = .ok (.bipush 24, 2) := by decide +kernel
theorem dX4_reduce_35 : decode cX4_reduce 35 = .ok (.if_icmp .ge 90, 3) := by decide +kernel
theorem dX4_reduce_38 : decode cX4_reduce 38 = .ok (.aload_n 0, 1) := by decide +kernel
theorem dX4_reduce_39 : decode cX4_reduce 39 = .ok (.getfield 9, 3) := by decide +kernel
theorem dX4_reduce_42 : decode cX4_reduce 42 = .ok (.iload_n 2, 1) := by decide +kernel
theorem dX4_reduce_43 : decode cX4_reduce 43 = .ok (.iaload, 1) := by decide +kernel
theorem dX4_reduce_44 : decode cX4_reduce 44 = .ok (.aload_n 0, 1) := by decide +kernel
theorem dX4_reduce_45 : decode cX4_reduce 45 = .ok (.getfield 9, 3) := by decide +kernel
theorem dX4_reduce_48 : decode cX4_reduce 48 = .ok (.iload_n 2, 1) := by decide +kernel
theorem dX4_reduce_49 : decode cX4_reduce 49 = .ok (.iaload, 1) := by decide +kernel
theorem dX4_reduce_50 : decode cX4_reduce 50 = .ok (.ineg, 1) := by decide +kernel
theorem dX4_reduce_51 : decode cX4_reduce 51 = .ok (.iand, 1) := by decide +kernel
theorem dX4_reduce_52 : decode cX4_reduce 52 = .ok (.istore_n 3, 1) := by decide +kernel
theorem dX4_reduce_53 : decode cX4_reduce 53 = .ok (.iconst 0, 1) := by decide +kernel
theorem dX4_reduce_54 : decode cX4_reduce 54 = .ok (.istore 4, 2) := by decide +kernel
theorem dX4_reduce_56 : decode cX4_reduce 56 = .ok (.iload 4, 2) := by decide +kernel
theorem dX4_reduce_58 : decode cX4_reduce 58 = .ok (.bipush 24, 2) := by decide +kernel
theorem dX4_reduce_60 : decode cX4_reduce 60 = .ok (.if_icmp .ge 59, 3) := by decide +kernel
theorem dX4_reduce_63 : decode cX4_reduce 63 = .ok (.iload 4, 2) := by decide +kernel
theorem dX4_reduce_65 : decode cX4_reduce 65 = .ok (.iload_n 2, 1) := by decide +kernel
theorem dX4_reduce_66 : decode cX4_reduce 66 = .ok (.if_icmp .eq 47, 3) := by decide +kernel
theorem dX4_reduce_69 : decode cX4_reduce 69 = .ok (.aload_n 0, 1) := by decide +kernel
theorem dX4_reduce_70 : decode cX4_reduce 70 = .ok (.getfield 9, 3) := by decide +kernel
theorem dX4_reduce_73 : decode cX4_reduce 73 = .ok (.iload 4, 2) := by decide +kernel
theorem dX4_reduce_75 : decode cX4_reduce 75 = .ok (.iaload, 1) := by decide +kernel
theorem dX4_reduce_76 : decode cX4_reduce 76 = .ok (.iload_n 3, 1) := by decide +kernel
theorem dX4_reduce_77 : decode cX4_reduce 77 = .ok (.iand, 1) := by decide +kernel
theorem dX4_reduce_78 : decode cX4_reduce 78 = .ok (.ifCond .eq 35, 3) := by decide +kernel
theorem dX4_reduce_81 : decode cX4_reduce 81 = .ok (.aload_n 0, 1) := by decide +kernel
theorem dX4_reduce_82 : decode cX4_reduce 82 = .ok (.getfield 9, 3) := by decide +kernel
theorem dX4_reduce_85 : decode cX4_reduce 85 = .ok (.iload 4, 2) := by decide +kernel
theorem dX4_reduce_87 : decode cX4_reduce 87 = .ok (.dup2, 1) := by decide +kernel
theorem dX4_reduce_88 : decode cX4_reduce 88 = .ok (.iaload, 1) := by decide +kernel
theorem dX4_reduce_89 : decode cX4_reduce 89 = .ok (.aload_n 0, 1) := by decide +kernel
theorem dX4_reduce_90 : decode cX4_reduce 90 = .ok (.getfield 9, 3) := by decide +kernel
theorem dX4_reduce_93 : decode cX4_reduce 93 = .ok (.iload_n 2, 1) := by decide +kernel
theorem dX4_reduce_94 : decode cX4_reduce 94 = .ok (.iaload, 1) := by decide +kernel
theorem dX4_reduce_95 : decode cX4_reduce 95 = .ok (.ixor, 1) := by decide +kernel
theorem dX4_reduce_96 : decode cX4_reduce 96 = .ok (.iastore, 1) := by decide +kernel
theorem dX4_reduce_97 : decode cX4_reduce 97 = .ok (.aload_n 0, 1) := by decide +kernel
theorem dX4_reduce_98 : decode cX4_reduce 98 = .ok (.getfield 15, 3) := by decide +kernel
theorem dX4_reduce_101 : decode cX4_reduce 101 = .ok (.iload 4, 2) := by decide +kernel
theorem dX4_reduce_103 : decode cX4_reduce 103 = .ok (.dup2, 1) := by decide +kernel
theorem dX4_reduce_104 : decode cX4_reduce 104 = .ok (.iaload, 1) := by decide +kernel
theorem dX4_reduce_105 : decode cX4_reduce 105 = .ok (.aload_n 0, 1) := by decide +kernel
theorem dX4_reduce_106 : decode cX4_reduce 106 = .ok (.getfield 15, 3) := by decide +kernel
theorem dX4_reduce_109 : decode cX4_reduce 109 = .ok (.iload_n 2, 1) := by decide +kernel
theorem dX4_reduce_110 : decode cX4_reduce 110 = .ok (.iaload, 1) := by decide +kernel
theorem dX4_reduce_111 : decode cX4_reduce 111 = .ok (.ixor, 1) := by decide +kernel
theorem dX4_reduce_112 : decode cX4_reduce 112 = .ok (.iastore, 1) := by decide +kernel
theorem dX4_reduce_113 : decode cX4_reduce 113 = .ok (.iinc 4 1, 3) := by decide +kernel
theorem dX4_reduce_116 : decode cX4_reduce 116 = .ok (.goto (-60), 3) := by decide +kernel
theorem dX4_reduce_119 : decode cX4_reduce 119 = .ok (.iinc 2 1, 3) := by decide +kernel
theorem dX4_reduce_122 : decode cX4_reduce 122 = .ok (.goto (-90), 3) := by decide +kernel
theorem dX4_reduce_125 : decode cX4_reduce 125 = .ok (.return_, 1) := by decide +kernel
theorem dX4_isSingle_0 : decode cX4_isSingle 0 = .ok (.iload_n 1, 1) := by decide +kernel
theorem dX4_isSingle_1 : decode cX4_isSingle 1 = .ok (.ifCond .lt 26, 3) := by decide +kernel
theorem dX4_isSingle_4 : decode cX4_isSingle 4 = .ok (.iload_n 1, 1) := by decide +kernel
theorem dX4_isSingle_5 : decode cX4_isSingle 5 = .ok (.bipush 24, 2) := by decide +kernel
theorem dX4_isSingle_7 : decode cX4_isSingle 7 = .ok (.if_icmp .ge 20, 3) := by decide +kernel
theorem dX4_isSingle_10 : decode cX4_isSingle 10 = .ok (.aload_n 0, 1) := by decide +kernel
theorem dX4_isSingle_11 : decode cX4_isSingle 11 = .ok (.getfield 9, 3) := by decide +kernel
theorem dX4_isSingle_14 : decode cX4_isSingle 14 = .ok (.iload_n 1, 1) := by decide +kernel
theorem dX4_isSingle_15 : decode cX4_isSingle 15 = .ok (.iaload, 1) := by decide +kernel
theorem dX4_isSingle_16 : decode cX4_isSingle 16 = .ok (.invokestatic 28, 3) := by decide +kernel
theorem dX4_isSingle_19 : decode cX4_isSingle 19 = .ok (.iconst 1, 1) := by decide +kernel
theorem dX4_isSingle_20 : decode cX4_isSingle 20 = .ok (.if_icmp .ne 7, 3) := by decide +kernel
theorem dX4_isSingle_23 : decode cX4_isSingle 23 = .ok (.iconst 1, 1) := by decide +kernel
theorem dX4_isSingle_24 : decode cX4_isSingle 24 = .ok (.goto 4, 3) := by decide +kernel
theorem dX4_isSingle_27 : decode cX4_isSingle 27 = .ok (.iconst 0, 1) := by decide +kernel
theorem dX4_isSingle_28 : decode cX4_isSingle 28 = .ok (.ireturn, 1) := by decide +kernel
theorem dX4_singleCount_0 : decode cX4_singleCount 0 = .ok (.iconst 0, 1) := by decide +kernel
theorem dX4_singleCount_1 : decode cX4_singleCount 1 = .ok (.istore_n 1, 1) := by decide +kernel
theorem dX4_singleCount_2 : decode cX4_singleCount 2 = .ok (.iconst 0, 1) := by decide +kernel
theorem dX4_singleCount_3 : decode cX4_singleCount 3 = .ok (.istore_n 2, 1) := by decide +kernel
theorem dX4_singleCount_4 : decode cX4_singleCount 4 = .ok (.iload_n 2, 1) := by decide +kernel
theorem dX4_singleCount_5 : decode cX4_singleCount 5 = .ok (.bipush 24, 2) := by decide +kernel
theorem dX4_singleCount_7 : decode cX4_singleCount 7 = .ok (.if_icmp .ge 20, 3) := by decide +kernel
theorem dX4_singleCount_10 : decode cX4_singleCount 10 = .ok (.aload_n 0, 1) := by decide +kernel
theorem dX4_singleCount_11 : decode cX4_singleCount 11 = .ok (.iload_n 2, 1) := by decide +kernel
theorem dX4_singleCount_12 : decode cX4_singleCount 12 = .ok (.invokevirtual 34, 3) := by decide +kernel
theorem dX4_singleCount_15 : decode cX4_singleCount 15 = .ok (.ifCond .eq 6, 3) := by decide +kernel
theorem dX4_singleCount_18 : decode cX4_singleCount 18 = .ok (.iinc 1 1, 3) := by decide +kernel
theorem dX4_singleCount_21 : decode cX4_singleCount 21 = .ok (.iinc 2 1, 3) := by decide +kernel
theorem dX4_singleCount_24 : decode cX4_singleCount 24 = .ok (.goto (-20), 3) := by decide +kernel
theorem dX4_singleCount_27 : decode cX4_singleCount 27 = .ok (.iload_n 1, 1) := by decide +kernel
theorem dX4_singleCount_28 : decode cX4_singleCount 28 = .ok (.ireturn, 1) := by decide +kernel
theorem dX5_init_0 : decode cX5_init 0 = .ok (.aload_n 0, 1) := by decide +kernel
theorem dX5_init_1 : decode cX5_init 1 = .ok (.invokespecial 3, 3) := by decide +kernel
theorem dX5_init_4 : decode cX5_init 4 = .ok (.aload_n 0, 1) := by decide +kernel
theorem dX5_init_5 : decode cX5_init 5 = .ok (.iconst 1, 1) := by decide +kernel
theorem dX5_init_6 : decode cX5_init 6 = .ok (.putfield 9, 3) := by decide +kernel
theorem dX5_init_9 : decode cX5_init 9 = .ok (.aload_n 0, 1) := by decide +kernel
theorem dX5_init_10 : decode cX5_init 10 = .ok (.bipush 16, 2) := by decide +kernel
theorem dX5_init_12 : decode cX5_init 12 = .ok (.newarray .int, 2) := by decide +kernel
theorem dX5_init_14 : decode cX5_init 14 = .ok (.putfield 15, 3) := by decide +kernel
theorem dX5_init_17 : decode cX5_init 17 = .ok (.aload_n 0, 1) := by decide +kernel
theorem dX5_init_18 : decode cX5_init 18 = .ok (.iconst 3, 1) := by decide +kernel
theorem dX5_init_19 : decode cX5_init 19 = .ok (.anewarray 19, 3) := by decide +kernel
theorem dX5_init_22 : decode cX5_init 22 = .ok (.putfield 21, 3) := by decide +kernel
theorem dX5_init_25 : decode cX5_init 25 = .ok (.iconst 0, 1) := by decide +kernel
theorem dX5_init_26 : decode cX5_init 26 = .ok (.istore_n 1, 1) := by decide +kernel
theorem dX5_init_27 : decode cX5_init 27 = .ok (.iload_n 1, 1) := by decide +kernel
theorem dX5_init_28 : decode cX5_init 28 = .ok (.iconst 3, 1) := by decide +kernel
theorem dX5_init_29 : decode cX5_init 29 = .ok (.if_icmp .ge 22, 3) := by decide +kernel
theorem dX5_init_32 : decode cX5_init 32 = .ok (.aload_n 0, 1) := by decide +kernel
theorem dX5_init_33 : decode cX5_init 33 = .ok (.getfield 21, 3) := by decide +kernel
theorem dX5_init_36 : decode cX5_init 36 = .ok (.iload_n 1, 1) := by decide +kernel
theorem dX5_init_37 : decode cX5_init 37 = .ok (.new 19, 3) := by decide +kernel
theorem dX5_init_40 : decode cX5_init 40 = .ok (.dup, 1) := by decide +kernel
theorem dX5_init_41 : decode cX5_init 41 = .ok (.invokespecial 25, 3) := by decide +kernel
theorem dX5_init_44 : decode cX5_init 44 = .ok (.aastore, 1) := by decide +kernel
