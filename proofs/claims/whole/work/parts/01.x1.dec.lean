theorem dX0_init_0 : decode cX0_init 0 = .ok (.aload_n 0, 1) := by decide +kernel
theorem dX0_init_1 : decode cX0_init 1 = .ok (.invokespecial 3, 3) := by decide +kernel
theorem dX0_init_4 : decode cX0_init 4 = .ok (.aload_n 0, 1) := by decide +kernel
theorem dX0_init_5 : decode cX0_init 5 = .ok (.bipush 16, 2) := by decide +kernel
theorem dX0_init_7 : decode cX0_init 7 = .ok (.newarray .int, 2) := by decide +kernel
theorem dX0_init_9 : decode cX0_init 9 = .ok (.putfield 9, 3) := by decide +kernel
theorem dX0_init_12 : decode cX0_init 12 = .ok (.aload_n 0, 1) := by decide +kernel
theorem dX0_init_13 : decode cX0_init 13 = .ok (.bipush 24, 2) := by decide +kernel
theorem dX0_init_15 : decode cX0_init 15 = .ok (.newarray .int, 2) := by decide +kernel
theorem dX0_init_17 : decode cX0_init 17 = .ok (.putfield 15, 3) := by decide +kernel
theorem dX0_init_20 : decode cX0_init 20 = .ok (.aload_n 0, 1) := by decide +kernel
theorem dX0_init_21 : decode cX0_init 21 = .ok (.bipush 24, 2) := by decide +kernel
theorem dX0_init_23 : decode cX0_init 23 = .ok (.newarray .int, 2) := by decide +kernel
theorem dX0_init_25 : decode cX0_init 25 = .ok (.putfield 18, 3) := by decide +kernel
theorem dX0_init_28 : decode cX0_init 28 = .ok (.return_, 1) := by decide +kernel
theorem dX0_clear_0 : decode cX0_clear 0 = .ok (.aload_n 0, 1) := by decide +kernel
theorem dX0_clear_1 : decode cX0_clear 1 = .ok (.iconst 0, 1) := by decide +kernel
theorem dX0_clear_2 : decode cX0_clear 2 = .ok (.putfield 21, 3) := by decide +kernel
theorem dX0_clear_5 : decode cX0_clear 5 = .ok (.aload_n 0, 1) := by decide +kernel
theorem dX0_clear_6 : decode cX0_clear 6 = .ok (.iconst 0, 1) := by decide +kernel
theorem dX0_clear_7 : decode cX0_clear 7 = .ok (.putfield 25, 3) := by decide +kernel
theorem dX0_clear_10 : decode cX0_clear 10 = .ok (.aload_n 0, 1) := by decide +kernel
theorem dX0_clear_11 : decode cX0_clear 11 = .ok (.iconst 0, 1) := by decide +kernel
theorem dX0_clear_12 : decode cX0_clear 12 = .ok (.putfield 28, 3) := by decide +kernel
theorem dX0_clear_15 : decode cX0_clear 15 = .ok (.aload_n 0, 1) := by decide +kernel
theorem dX0_clear_16 : decode cX0_clear 16 = .ok (.iconst 0, 1) := by decide +kernel
theorem dX0_clear_17 : decode cX0_clear 17 = .ok (.putfield 31, 3) := by decide +kernel
theorem dX0_clear_20 : decode cX0_clear 20 = .ok (.aload_n 0, 1) := by decide +kernel
theorem dX0_clear_21 : decode cX0_clear 21 = .ok (.iconst 0, 1) := by decide +kernel
theorem dX0_clear_22 : decode cX0_clear 22 = .ok (.putfield 34, 3) := by decide +kernel
theorem dX0_clear_25 : decode cX0_clear 25 = .ok (.iconst 0, 1) := by decide +kernel
theorem dX0_clear_26 : decode cX0_clear 26 = .ok (.istore_n 1, 1) := by decide +kernel
theorem dX0_clear_27 : decode cX0_clear 27 = .ok (.iload_n 1, 1) := by decide +kernel
theorem dX0_clear_28 : decode cX0_clear 28 = .ok (.bipush 16, 2) := by decide +kernel
theorem dX0_clear_30 : decode cX0_clear 30 = .ok (.if_icmp .ge 16, 3) := by decide +kernel
theorem dX0_clear_33 : decode cX0_clear 33 = .ok (.aload_n 0, 1) := by decide +kernel
theorem dX0_clear_34 : decode cX0_clear 34 = .ok (.getfield 9, 3) := by decide +kernel
theorem dX0_clear_37 : decode cX0_clear 37 = .ok (.iload_n 1, 1) := by decide +kernel
theorem dX0_clear_38 : decode cX0_clear 38 = .ok (.iconst 0, 1) := by decide +kernel
theorem dX0_clear_39 : decode cX0_clear 39 = .ok (.iastore, 1) := by decide +kernel
theorem dX0_clear_40 : decode cX0_clear 40 = .ok (.iinc 1 1, 3) := by decide +kernel
theorem dX0_clear_43 : decode cX0_clear 43 = .ok (.goto (-16), 3) := by decide +kernel
theorem dX0_clear_46 : decode cX0_clear 46 = .ok (.iconst 0, 1) := by decide +kernel
theorem dX0_clear_47 : decode cX0_clear 47 = .ok (.istore_n 1, 1) := by decide +kernel
theorem dX0_clear_48 : decode cX0_clear 48 = .ok (.iload_n 1, 1) := by decide +kernel
theorem dX0_clear_49 : decode cX0_clear 49 = .ok (.bipush 24, 2) := by decide +kernel
theorem dX0_clear_51 : decode cX0_clear 51 = .ok (.if_icmp .ge 23, 3) := by decide +kernel
theorem dX0_clear_54 : decode cX0_clear 54 = .ok (.aload_n 0, 1) := by decide +kernel
theorem dX0_clear_55 : decode cX0_clear 55 = .ok (.getfield 15, 3) := by decide +kernel
theorem dX0_clear_58 : decode cX0_clear 58 = .ok (.iload_n 1, 1) := by decide +kernel
theorem dX0_clear_59 : decode cX0_clear 59 = .ok (.iconst 0, 1) := by decide +kernel
theorem dX0_clear_60 : decode cX0_clear 60 = .ok (.iastore, 1) := by decide +kernel
theorem dX0_clear_61 : decode cX0_clear 61 = .ok (.aload_n 0, 1) := by decide +kernel
theorem dX0_clear_62 : decode cX0_clear 62 = .ok (.getfield 18, 3) := by decide +kernel
theorem dX0_clear_65 : decode cX0_clear 65 = .ok (.iload_n 1, 1) := by decide +kernel
theorem dX0_clear_66 : decode cX0_clear 66 = .ok (.iconst 0, 1) := by decide +kernel
theorem dX0_clear_67 : decode cX0_clear 67 = .ok (.iastore, 1) := by decide +kernel
theorem dX0_clear_68 : decode cX0_clear 68 = .ok (.iinc 1 1, 3) := by decide +kernel
theorem dX0_clear_71 : decode cX0_clear 71 = .ok (.goto (-23), 3) := by decide +kernel
theorem dX0_clear_74 : decode cX0_clear 74 = .ok (.return_, 1) := by decide +kernel
theorem dX0_copyFrom_0 : decode cX0_copyFrom 0 = .ok (.aload_n 0, 1) := by decide +kernel
theorem dX0_copyFrom_1 : decode cX0_copyFrom 1 = .ok (.aload_n 1, 1) := by decide +kernel
theorem dX0_copyFrom_2 : decode cX0_copyFrom 2 = .ok (.getfield 21, 3) := by decide +kernel
theorem dX0_copyFrom_5 : decode cX0_copyFrom 5 = .ok (.putfield 21, 3) := by decide +kernel
theorem dX0_copyFrom_8 : decode cX0_copyFrom 8 = .ok (.aload_n 0, 1) := by decide +kernel
theorem dX0_copyFrom_9 : decode cX0_copyFrom 9 = .ok (.aload_n 1, 1) := by decide +kernel
theorem dX0_copyFrom_10 : decode cX0_copyFrom 10 = .ok (.getfield 25, 3) := by decide +kernel
theorem dX0_copyFrom_13 : decode cX0_copyFrom 13 = .ok (.putfield 25, 3) := by decide +kernel
theorem dX0_copyFrom_16 : decode cX0_copyFrom 16 = .ok (.aload_n 0, 1) := by decide +kernel
theorem dX0_copyFrom_17 : decode cX0_copyFrom 17 = .ok (.aload_n 1, 1) := by decide +kernel
theorem dX0_copyFrom_18 : decode cX0_copyFrom 18 = .ok (.getfield 28, 3) := by decide +kernel
theorem dX0_copyFrom_21 : decode cX0_copyFrom 21 = .ok (.putfield 28, 3) := by decide +kernel
theorem dX0_copyFrom_24 : decode cX0_copyFrom 24 = .ok (.aload_n 0, 1) := by decide +kernel
theorem dX0_copyFrom_25 : decode cX0_copyFrom 25 = .ok (.aload_n 1, 1) := by decide +kernel
theorem dX0_copyFrom_26 : decode cX0_copyFrom 26 = .ok (.getfield 31, 3) := by decide +kernel
theorem dX0_copyFrom_29 : decode cX0_copyFrom 29 = .ok (.putfield 31, 3) := by decide +kernel
theorem dX0_copyFrom_32 : decode cX0_copyFrom 32 = .ok (.aload_n 0, 1) := by decide +kernel
theorem dX0_copyFrom_33 : decode cX0_copyFrom 33 = .ok (.aload_n 1, 1) := by decide +kernel
theorem dX0_copyFrom_34 : decode cX0_copyFrom 34 = .ok (.getfield 34, 3) := by decide +kernel
theorem dX0_copyFrom_37 : decode cX0_copyFrom 37 = .ok (.putfield 34, 3) := by decide +kernel
theorem dX0_copyFrom_40 : decode cX0_copyFrom 40 = .ok (.aload_n 1, 1) := by decide +kernel
theorem dX0_copyFrom_41 : decode cX0_copyFrom 41 = .ok (.getfield 9, 3) := by decide +kernel
theorem dX0_copyFrom_44 : decode cX0_copyFrom 44 = .ok (.iconst 0, 1) := by decide +kernel
theorem dX0_copyFrom_45 : decode cX0_copyFrom 45 = .ok (.aload_n 0, 1) := by decide +kernel
theorem dX0_copyFrom_46 : decode cX0_copyFrom 46 = .ok (.getfield 9, 3) := by decide +kernel
theorem dX0_copyFrom_49 : decode cX0_copyFrom 49 = .ok (.iconst 0, 1) := by decide +kernel
theorem dX0_copyFrom_50 : decode cX0_copyFrom 50 = .ok (.bipush 16, 2) := by decide +kernel
theorem dX0_copyFrom_52 : decode cX0_copyFrom 52 = .ok (.invokestatic 37, 3) := by decide +kernel
theorem dX0_copyFrom_55 : decode cX0_copyFrom 55 = .ok (.aload_n 1, 1) := by decide +kernel
theorem dX0_copyFrom_56 : decode cX0_copyFrom 56 = .ok (.getfield 15, 3) := by decide +kernel
theorem dX0_copyFrom_59 : decode cX0_copyFrom 59 = .ok (.iconst 0, 1) := by decide +kernel
theorem dX0_copyFrom_60 : decode cX0_copyFrom 60 = .ok (.aload_n 0, 1) := by decide +kernel
theorem dX0_copyFrom_61 : decode cX0_copyFrom 61 = .ok (.getfield 15, 3) := by decide +kernel
theorem dX0_copyFrom_64 : decode cX0_copyFrom 64 = .ok (.iconst 0, 1) := by decide +kernel
theorem dX0_copyFrom_65 : decode cX0_copyFrom 65 = .ok (.bipush 24, 2) := by decide +kernel
theorem dX0_copyFrom_67 : decode cX0_copyFrom 67 = .ok (.invokestatic 37, 3) := by decide +kernel
theorem dX0_copyFrom_70 : decode cX0_copyFrom 70 = .ok (.aload_n 1, 1) := by decide +kernel
theorem dX0_copyFrom_71 : decode cX0_copyFrom 71 = .ok (.getfield 18, 3) := by decide +kernel
theorem dX0_copyFrom_74 : decode cX0_copyFrom 74 = .ok (.iconst 0, 1) := by decide +kernel
theorem dX0_copyFrom_75 : decode cX0_copyFrom 75 = .ok (.aload_n 0, 1) := by decide +kernel
theorem dX0_copyFrom_76 : decode cX0_copyFrom 76 = .ok (.getfield 18, 3) := by decide +kernel
theorem dX0_copyFrom_79 : decode cX0_copyFrom 79 = .ok (.iconst 0, 1) := by decide +kernel
theorem dX0_copyFrom_80 : decode cX0_copyFrom 80 = .ok (.bipush 24, 2) := by decide +kernel
theorem dX0_copyFrom_82 : decode cX0_copyFrom 82 = .ok (.invokestatic 37, 3) := by decide +kernel
theorem dX0_copyFrom_85 : decode cX0_copyFrom 85 = .ok (.return_, 1) := by decide +kernel
theorem dX0_knownCount_0 : decode cX0_knownCount 0 = .ok (.aload_n 0, 1) := by decide +kernel
theorem dX0_knownCount_1 : decode cX0_knownCount 1 = .ok (.getfield 21, 3) := by decide +kernel
theorem dX0_knownCount_4 : decode cX0_knownCount 4 = .ok (.invokestatic 43, 3) := by decide +kernel
theorem dX0_knownCount_7 : decode cX0_knownCount 7 = .ok (.ireturn, 1) := by decide +kernel
theorem dX0_receive_0 : decode cX0_receive 0 = .ok (.aload_n 0, 1) := by decide +kernel
theorem dX0_receive_1 : decode cX0_receive 1 = .ok (.dup, 1) := by decide +kernel
theorem dX0_receive_2 : decode cX0_receive 2 = .ok (.getfield 28, 3) := by decide +kernel
theorem dX0_receive_5 : decode cX0_receive 5 = .ok (.iconst 1, 1) := by decide +kernel
theorem dX0_receive_6 : decode cX0_receive 6 = .ok (.iadd, 1) := by decide +kernel
theorem dX0_receive_7 : decode cX0_receive 7 = .ok (.putfield 28, 3) := by decide +kernel
theorem dX0_receive_10 : decode cX0_receive 10 = .ok (.aload_n 1, 1) := by decide +kernel
theorem dX0_receive_11 : decode cX0_receive 11 = .ok (.getfield 49, 3) := by decide +kernel
theorem dX0_receive_14 : decode cX0_receive 14 = .ok (.ifCond .eq 15, 3) := by decide +kernel
theorem dX0_receive_17 : decode cX0_receive 17 = .ok (.aload_n 0, 1) := by decide +kernel
theorem dX0_receive_18 : decode cX0_receive 18 = .ok (.dup, 1) := by decide +kernel
theorem dX0_receive_19 : decode cX0_receive 19 = .ok (.getfield 31, 3) := by decide +kernel
theorem dX0_receive_22 : decode cX0_receive 22 = .ok (.iconst 1, 1) := by decide +kernel
theorem dX0_receive_23 : decode cX0_receive 23 = .ok (.iadd, 1) := by decide +kernel
theorem dX0_receive_24 : decode cX0_receive 24 = .ok (.putfield 31, 3) := by decide +kernel
theorem dX0_receive_27 : decode cX0_receive 27 = .ok (.iconst 0, 1) := by decide +kernel
theorem dX0_receive_28 : decode cX0_receive 28 = .ok (.ireturn, 1) := by decide +kernel
theorem dX0_receive_29 : decode cX0_receive 29 = .ok (.aload_n 0, 1) := by decide +kernel
theorem dX0_receive_30 : decode cX0_receive 30 = .ok (.invokevirtual 54, 3) := by decide +kernel
theorem dX0_receive_33 : decode cX0_receive 33 = .ok (.istore_n 2, 1) := by decide +kernel
theorem dX0_receive_34 : decode cX0_receive 34 = .ok (.aload_n 1, 1) := by decide +kernel
theorem dX0_receive_35 : decode cX0_receive 35 = .ok (.getfield 58, 3) := by decide +kernel
theorem dX0_receive_38 : decode cX0_receive 38 = .ok (.aload_n 0, 1) := by decide +kernel
theorem dX0_receive_39 : decode cX0_receive 39 = .ok (.getfield 21, 3) := by decide +kernel
theorem dX0_receive_42 : decode cX0_receive 42 = .ok (.iconst (-1), 1) := by decide +kernel
theorem dX0_receive_43 : decode cX0_receive 43 = .ok (.ixor, 1) := by decide +kernel
theorem dX0_receive_44 : decode cX0_receive 44 = .ok (.iand, 1) := by decide +kernel
theorem dX0_receive_45 : decode cX0_receive 45 = .ok (.istore_n 3, 1) := by decide +kernel
theorem dX0_receive_46 : decode cX0_receive 46 = .ok (.aload_n 1, 1) := by decide +kernel
theorem dX0_receive_47 : decode cX0_receive 47 = .ok (.getfield 61, 3) := by decide +kernel
theorem dX0_receive_50 : decode cX0_receive 50 = .ok (.istore 4, 2) := by decide +kernel
theorem dX0_receive_52 : decode cX0_receive 52 = .ok (.iconst 0, 1) := by decide +kernel
theorem dX0_receive_53 : decode cX0_receive 53 = .ok (.istore 5, 2) := by decide +kernel
theorem dX0_receive_55 : decode cX0_receive 55 = .ok (.iload 5, 2) := by decide +kernel
theorem dX0_receive_57 : decode cX0_receive 57 = .ok (.bipush 16, 2) := by decide +kernel
theorem dX0_receive_59 : decode cX0_receive 59 = .ok (.if_icmp .ge 38, 3) := by decide +kernel
theorem dX0_receive_62 : decode cX0_receive 62 = .ok (.aload_n 1, 1) := by decide +kernel
theorem dX0_receive_63 : decode cX0_receive 63 = .ok (.getfield 58, 3) := by decide +kernel
theorem dX0_receive_66 : decode cX0_receive 66 = .ok (.aload_n 0, 1) := by decide +kernel
theorem dX0_receive_67 : decode cX0_receive 67 = .ok (.getfield 21, 3) := by decide +kernel
theorem dX0_receive_70 : decode cX0_receive 70 = .ok (.iand, 1) := by decide +kernel
theorem dX0_receive_71 : decode cX0_receive 71 = .ok (.iconst 1, 1) := by decide +kernel
theorem dX0_receive_72 : decode cX0_receive 72 = .ok (.iload 5, 2) := by decide +kernel
theorem dX0_receive_74 : decode cX0_receive 74 = .ok (.ishl, 1) := by decide +kernel
theorem dX0_receive_75 : decode cX0_receive 75 = .ok (.iand, 1) := by decide +kernel
theorem dX0_receive_76 : decode cX0_receive 76 = .ok (.ifCond .eq 15, 3) := by decide +kernel
theorem dX0_receive_79 : decode cX0_receive 79 = .ok (.iload 4, 2) := by decide +kernel
theorem dX0_receive_81 : decode cX0_receive 81 = .ok (.aload_n 0, 1) := by decide +kernel
theorem dX0_receive_82 : decode cX0_receive 82 = .ok (.getfield 9, 3) := by decide +kernel
theorem dX0_receive_85 : decode cX0_receive 85 = .ok (.iload 5, 2) := by decide +kernel
theorem dX0_receive_87 : decode cX0_receive 87 = .ok (.iaload, 1) := by decide +kernel
theorem dX0_receive_88 : decode cX0_receive 88 = .ok (.ixor, 1) := by decide +kernel
theorem dX0_receive_89 : decode cX0_receive 89 = .ok (.istore 4, 2) := by decide +kernel
theorem dX0_receive_91 : decode cX0_receive 91 = .ok (.iinc 5 1, 3) := by decide +kernel
theorem dX0_receive_94 : decode cX0_receive 94 = .ok (.goto (-39), 3) := by decide +kernel
theorem dX0_receive_97 : decode cX0_receive 97 = .ok (.iload_n 3, 1) := by decide +kernel
theorem dX0_receive_98 : decode cX0_receive 98 = .ok (.invokestatic 43, 3) := by decide +kernel
theorem dX0_receive_101 : decode cX0_receive 101 = .ok (.istore 5, 2) := by decide +kernel
theorem dX0_receive_103 : decode cX0_receive 103 = .ok (.iload 5, 2) := by decide +kernel
theorem dX0_receive_105 : decode cX0_receive 105 = .ok (.iconst 1, 1) := by decide +kernel
theorem dX0_receive_106 : decode cX0_receive 106 = .ok (.if_icmp .ne 17, 3) := by decide +kernel
theorem dX0_receive_109 : decode cX0_receive 109 = .ok (.aload_n 0, 1) := by decide +kernel
theorem dX0_receive_110 : decode cX0_receive 110 = .ok (.iload_n 3, 1) := by decide +kernel
theorem dX0_receive_111 : decode cX0_receive 111 = .ok (.iload 4, 2) := by decide +kernel
theorem dX0_receive_113 : decode cX0_receive 113 = .ok (.invokevirtual 64, 3) := by decide +kernel
theorem dX0_receive_116 : decode cX0_receive 116 = .ok (.aload_n 0, 1) := by decide +kernel
theorem dX0_receive_117 : decode cX0_receive 117 = .ok (.invokevirtual 68, 3) := by decide +kernel
theorem dX0_receive_120 : decode cX0_receive 120 = .ok (.goto 28, 3) := by decide +kernel
theorem dX0_receive_123 : decode cX0_receive 123 = .ok (.iload 5, 2) := by decide +kernel
theorem dX0_receive_125 : decode cX0_receive 125 = .ok (.ifCond .eq 13, 3) := by decide +kernel
theorem dX0_receive_128 : decode cX0_receive 128 = .ok (.aload_n 0, 1) := by decide +kernel
theorem dX0_receive_129 : decode cX0_receive 129 = .ok (.iload_n 3, 1) := by decide +kernel
theorem dX0_receive_130 : decode cX0_receive 130 = .ok (.iload 4, 2) := by decide +kernel
theorem dX0_receive_132 : decode cX0_receive 132 = .ok (.invokevirtual 71, 3) := by decide +kernel
theorem dX0_receive_135 : decode cX0_receive 135 = .ok (.ifCond .ne 13, 3) := by decide +kernel
theorem dX0_receive_138 : decode cX0_receive 138 = .ok (.aload_n 0, 1) := by decide +kernel
theorem dX0_receive_139 : decode cX0_receive 139 = .ok (.dup, 1) := by decide +kernel
theorem dX0_receive_140 : decode cX0_receive 140 = .ok (.getfield 34, 3) := by decide +kernel
theorem dX0_receive_143 : decode cX0_receive 143 = .ok (.iconst 1, 1) := by decide +kernel
theorem dX0_receive_144 : decode cX0_receive 144 = .ok (.iadd, 1) := by decide +kernel
theorem dX0_receive_145 : decode cX0_receive 145 = .ok (.putfield 34, 3) := by decide +kernel
theorem dX0_receive_148 : decode cX0_receive 148 = .ok (.aload_n 0, 1) := by decide +kernel
theorem dX0_receive_149 : decode cX0_receive 149 = .ok (.invokevirtual 54, 3) := by decide +kernel
theorem dX0_receive_152 : decode cX0_receive 152 = .ok (.iload_n 2, 1) := by decide +kernel
theorem dX0_receive_153 : decode cX0_receive 153 = .ok (.isub, 1) := by decide +kernel
theorem dX0_receive_154 : decode cX0_receive 154 = .ok (.ireturn, 1) := by decide +kernel
theorem dX0_learnSingles_0 : decode cX0_learnSingles 0 = .ok (.aload_n 0, 1) := by decide +kernel
theorem dX0_learnSingles_1 : decode cX0_learnSingles 1 = .ok (.invokevirtual 54, 3) := by decide +kernel
theorem dX0_learnSingles_4 : decode cX0_learnSingles 4 = .ok (.istore_n 2, 1) := by decide +kernel
theorem dX0_learnSingles_5 : decode cX0_learnSingles 5 = .ok (.iconst 0, 1) := by decide +kernel
theorem dX0_learnSingles_6 : decode cX0_learnSingles 6 = .ok (.istore_n 3, 1) := by decide +kernel
theorem dX0_learnSingles_7 : decode cX0_learnSingles 7 = .ok (.iload_n 3, 1) := by decide +kernel
theorem dX0_learnSingles_8 : decode cX0_learnSingles 8 = .ok (.bipush 24, 2) := by decide +kernel
theorem dX0_learnSingles_10 : decode cX0_learnSingles 10 = .ok (.if_icmp .ge 33, 3) := by decide +kernel
theorem dX0_learnSingles_13 : decode cX0_learnSingles 13 = .ok (.aload_n 1, 1) := by decide +kernel
theorem dX0_learnSingles_14 : decode cX0_learnSingles 14 = .ok (.iload_n 3, 1) := by decide +kernel
theorem dX0_learnSingles_15 : decode cX0_learnSingles 15 = .ok (.invokevirtual 75, 3) := by decide +kernel
theorem dX0_learnSingles_18 : decode cX0_learnSingles 18 = .ok (.ifCond .eq 19, 3) := by decide +kernel
theorem dX0_learnSingles_21 : decode cX0_learnSingles 21 = .ok (.aload_n 0, 1) := by decide +kernel
theorem dX0_learnSingles_22 : decode cX0_learnSingles 22 = .ok (.aload_n 1, 1) := by decide +kernel
theorem dX0_learnSingles_23 : decode cX0_learnSingles 23 = .ok (.getfield 81, 3) := by decide +kernel
theorem dX0_learnSingles_26 : decode cX0_learnSingles 26 = .ok (.iload_n 3, 1) := by decide +kernel
theorem dX0_learnSingles_27 : decode cX0_learnSingles 27 = .ok (.iaload, 1) := by decide +kernel
theorem dX0_learnSingles_28 : decode cX0_learnSingles 28 = .ok (.aload_n 1, 1) := by decide +kernel
theorem dX0_learnSingles_29 : decode cX0_learnSingles 29 = .ok (.getfield 82, 3) := by decide +kernel
theorem dX0_learnSingles_32 : decode cX0_learnSingles 32 = .ok (.iload_n 3, 1) := by decide +kernel
theorem dX0_learnSingles_33 : decode cX0_learnSingles 33 = .ok (.iaload, 1) := by decide +kernel
theorem dX0_learnSingles_34 : decode cX0_learnSingles 34 = .ok (.invokevirtual 64, 3) := by decide +kernel
theorem dX0_learnSingles_37 : decode cX0_learnSingles 37 = .ok (.iinc 3 1, 3) := by decide +kernel
theorem dX0_learnSingles_40 : decode cX0_learnSingles 40 = .ok (.goto (-33), 3) := by decide +kernel
theorem dX0_learnSingles_43 : decode cX0_learnSingles 43 = .ok (.aload_n 0, 1) := by decide +kernel
theorem dX0_learnSingles_44 : decode cX0_learnSingles 44 = .ok (.invokevirtual 68, 3) := by decide +kernel
theorem dX0_learnSingles_47 : decode cX0_learnSingles 47 = .ok (.aload_n 0, 1) := by decide +kernel
theorem dX0_learnSingles_48 : decode cX0_learnSingles 48 = .ok (.invokevirtual 54, 3) := by decide +kernel
theorem dX0_learnSingles_51 : decode cX0_learnSingles 51 = .ok (.iload_n 2, 1) := by decide +kernel
theorem dX0_learnSingles_52 : decode cX0_learnSingles 52 = .ok (.isub, 1) := by decide +kernel
theorem dX0_learnSingles_53 : decode cX0_learnSingles 53 = .ok (.ireturn, 1) := by decide +kernel
theorem dX0_keepIfRoom_0 : decode cX0_keepIfRoom 0 = .ok (.aload_n 0, 1) := by decide +kernel
theorem dX0_keepIfRoom_1 : decode cX0_keepIfRoom 1 = .ok (.getfield 25, 3) := by decide +kernel
theorem dX0_keepIfRoom_4 : decode cX0_keepIfRoom 4 = .ok (.istore_n 3, 1) := by decide +kernel
theorem dX0_keepIfRoom_5 : decode cX0_keepIfRoom 5 = .ok (.iload_n 3, 1) := by decide +kernel
theorem dX0_keepIfRoom_6 : decode cX0_keepIfRoom 6 = .ok (.iconst 0, 1) := by decide +kernel
theorem dX0_keepIfRoom_7 : decode cX0_keepIfRoom 7 = .ok (.bipush 23, 2) := by decide +kernel
theorem dX0_keepIfRoom_9 : decode cX0_keepIfRoom 9 = .ok (.invokestatic 83, 3) := by decide +kernel
theorem dX0_keepIfRoom_12 : decode cX0_keepIfRoom 12 = .ok (.ifCond .ne 5, 3) := by decide +kernel
theorem dX0_keepIfRoom_15 : decode cX0_keepIfRoom 15 = .ok (.iconst 0, 1) := by decide +kernel
theorem dX0_keepIfRoom_16 : decode cX0_keepIfRoom 16 = .ok (.ireturn, 1) := by decide +kernel
theorem dX0_keepIfRoom_17 : decode cX0_keepIfRoom 17 = .ok (.aload_n 0, 1) := by decide +kernel
theorem dX0_keepIfRoom_18 : decode cX0_keepIfRoom 18 = .ok (.getfield 15, 3) := by decide +kernel
theorem dX0_keepIfRoom_21 : decode cX0_keepIfRoom 21 = .ok (.iload_n 3, 1) := by decide +kernel
theorem dX0_keepIfRoom_22 : decode cX0_keepIfRoom 22 = .ok (.iload_n 1, 1) := by decide +kernel
theorem dX0_keepIfRoom_23 : decode cX0_keepIfRoom 23 = .ok (.iastore, 1) := by decide +kernel
theorem dX0_keepIfRoom_24 : decode cX0_keepIfRoom 24 = .ok (.aload_n 0, 1) := by decide +kernel
theorem dX0_keepIfRoom_25 : decode cX0_keepIfRoom 25 = .ok (.getfield 18, 3) := by decide +kernel
theorem dX0_keepIfRoom_28 : decode cX0_keepIfRoom 28 = .ok (.iload_n 3, 1) := by decide +kernel
theorem dX0_keepIfRoom_29 : decode cX0_keepIfRoom 29 = .ok (.iload_n 2, 1) := by decide +kernel
theorem dX0_keepIfRoom_30 : decode cX0_keepIfRoom 30 = .ok (.iastore, 1) := by decide +kernel
theorem dX0_keepIfRoom_31 : decode cX0_keepIfRoom 31 = .ok (.aload_n 0, 1) := by decide +kernel
theorem dX0_keepIfRoom_32 : decode cX0_keepIfRoom 32 = .ok (.dup, 1) := by decide +kernel
theorem dX0_keepIfRoom_33 : decode cX0_keepIfRoom 33 = .ok (.getfield 25, 3) := by decide +kernel
theorem dX0_keepIfRoom_36 : decode cX0_keepIfRoom 36 = .ok (.iconst 1, 1) := by decide +kernel
theorem dX0_keepIfRoom_37 : decode cX0_keepIfRoom 37 = .ok (.iadd, 1) := by decide +kernel
theorem dX0_keepIfRoom_38 : decode cX0_keepIfRoom 38 = .ok (.putfield 25, 3) := by decide +kernel
theorem dX0_keepIfRoom_41 : decode cX0_keepIfRoom 41 = .ok (.iconst 1, 1) := by decide +kernel
theorem dX0_keepIfRoom_42 : decode cX0_keepIfRoom 42 = .ok (.ireturn, 1) := by decide +kernel
theorem dX0_learn_0 : decode cX0_learn 0 = .ok (.aload_n 0, 1) := by decide +kernel
theorem dX0_learn_1 : decode cX0_learn 1 = .ok (.dup, 1) := by decide +kernel
theorem dX0_learn_2 : decode cX0_learn 2 = .ok (.getfield 21, 3) := by decide +kernel
theorem dX0_learn_5 : decode cX0_learn 5 = .ok (.iload_n 1, 1) := by decide +kernel
theorem dX0_learn_6 : decode cX0_learn 6 = .ok (.ior, 1) := by decide +kernel
theorem dX0_learn_7 : decode cX0_learn 7 = .ok (.putfield 21, 3) := by decide +kernel
theorem dX0_learn_10 : decode cX0_learn 10 = .ok (.iconst 0, 1) := by decide +kernel
theorem dX0_learn_11 : decode cX0_learn 11 = .ok (.istore_n 3, 1) := by decide +kernel
theorem dX0_learn_12 : decode cX0_learn 12 = .ok (.iload_n 3, 1) := by decide +kernel
theorem dX0_learn_13 : decode cX0_learn 13 = .ok (.bipush 16, 2) := by decide +kernel
theorem dX0_learn_15 : decode cX0_learn 15 = .ok (.if_icmp .ge 23, 3) := by decide +kernel
theorem dX0_learn_18 : decode cX0_learn 18 = .ok (.iload_n 1, 1) := by decide +kernel
theorem dX0_learn_19 : decode cX0_learn 19 = .ok (.iconst 1, 1) := by decide +kernel
theorem dX0_learn_20 : decode cX0_learn 20 = .ok (.iload_n 3, 1) := by decide +kernel
theorem dX0_learn_21 : decode cX0_learn 21 = .ok (.ishl, 1) := by decide +kernel
theorem dX0_learn_22 : decode cX0_learn 22 = .ok (.if_icmp .ne 10, 3) := by decide +kernel
theorem dX0_learn_25 : decode cX0_learn 25 = .ok (.aload_n 0, 1) := by decide +kernel
theorem dX0_learn_26 : decode cX0_learn 26 = .ok (.getfield 9, 3) := by decide +kernel
theorem dX0_learn_29 : decode cX0_learn 29 = .ok (.iload_n 3, 1) := by decide +kernel
theorem dX0_learn_30 : decode cX0_learn 30 = .ok (.iload_n 2, 1) := by decide +kernel
theorem dX0_learn_31 : decode cX0_learn 31 = .ok (.iastore, 1) := by decide +kernel
theorem dX0_learn_32 : decode cX0_learn 32 = .ok (.iinc 3 1, 3) := by decide +kernel
theorem dX0_learn_35 : decode cX0_learn 35 = .ok (.goto (-23), 3) := by decide +kernel
theorem dX0_learn_38 : decode cX0_learn 38 = .ok (.iconst 0, 1) := by decide +kernel
theorem dX0_learn_39 : decode cX0_learn 39 = .ok (.istore_n 3, 1) := by decide +kernel
theorem dX0_learn_40 : decode cX0_learn 40 = .ok (.iload_n 3, 1) := by decide +kernel
theorem dX0_learn_41 : decode cX0_learn 41 = .ok (.bipush 24, 2) := by decide +kernel
theorem dX0_learn_43 : decode cX0_learn 43 = .ok (.if_icmp .ge 40, 3) := by decide +kernel
theorem dX0_learn_46 : decode cX0_learn 46 = .ok (.aload_n 0, 1) := by decide +kernel
theorem dX0_learn_47 : decode cX0_learn 47 = .ok (.getfield 15, 3) := by decide +kernel
theorem dX0_learn_50 : decode cX0_learn 50 = .ok (.iload_n 3, 1) := by decide +kernel
theorem dX0_learn_51 : decode cX0_learn 51 = .ok (.iaload, 1) := by decide +kernel
theorem dX0_learn_52 : decode cX0_learn 52 = .ok (.iload_n 1, 1) := by decide +kernel
theorem dX0_learn_53 : decode cX0_learn 53 = .ok (.iand, 1) := by decide +kernel
theorem dX0_learn_54 : decode cX0_learn 54 = .ok (.ifCond .eq 23, 3) := by decide +kernel
theorem dX0_learn_57 : decode cX0_learn 57 = .ok (.aload_n 0, 1) := by decide +kernel
theorem dX0_learn_58 : decode cX0_learn 58 = .ok (.getfield 15, 3) := by decide +kernel
theorem dX0_learn_61 : decode cX0_learn 61 = .ok (.iload_n 3, 1) := by decide +kernel
theorem dX0_learn_62 : decode cX0_learn 62 = .ok (.dup2, 1) := by decide +kernel
theorem dX0_learn_63 : decode cX0_learn 63 = .ok (.iaload, 1) := by decide +kernel
theorem dX0_learn_64 : decode cX0_learn 64 = .ok (.iload_n 1, 1) := by decide +kernel
theorem dX0_learn_65 : decode cX0_learn 65 = .ok (.ixor, 1) := by decide +kernel
theorem dX0_learn_66 : decode cX0_learn 66 = .ok (.iastore, 1) := by decide +kernel
theorem dX0_learn_67 : decode cX0_learn 67 = .ok (.aload_n 0, 1) := by decide +kernel
theorem dX0_learn_68 : decode cX0_learn 68 = .ok (.getfield 18, 3) := by decide +kernel
theorem dX0_learn_71 : decode cX0_learn 71 = .ok (.iload_n 3, 1) := by decide +kernel
theorem dX0_learn_72 : decode cX0_learn 72 = .ok (.dup2, 1) := by decide +kernel
theorem dX0_learn_73 : decode cX0_learn 73 = .ok (.iaload, 1) := by decide +kernel
theorem dX0_learn_74 : decode cX0_learn 74 = .ok (.iload_n 2, 1) := by decide +kernel
theorem dX0_learn_75 : decode cX0_learn 75 = .ok (.ixor, 1) := by decide +kernel
theorem dX0_learn_76 : decode cX0_learn 76 = .ok (.iastore, 1) := by decide +kernel
theorem dX0_learn_77 : decode cX0_learn 77 = .ok (.iinc 3 1, 3) := by decide +kernel
theorem dX0_learn_80 : decode cX0_learn 80 = .ok (.goto (-40), 3) := by decide +kernel
theorem dX0_learn_83 : decode cX0_learn 83 = .ok (.return_, 1) := by decide +kernel
theorem dX0_peel_0 : decode cX0_peel 0 = .ok (.iconst 0, 1) := by decide +kernel
theorem dX0_peel_1 : decode cX0_peel 1 = .ok (.istore_n 1, 1) := by decide +kernel
theorem dX0_peel_2 : decode cX0_peel 2 = .ok (.iload_n 1, 1) := by decide +kernel
theorem dX0_peel_3 : decode cX0_peel 3 = .ok (.bipush 24, 2) := by decide +kernel
theorem dX0_peel_5 : decode cX0_peel 5 = .ok (.if_icmp .ge 56, 3) := by decide +kernel
theorem dX0_peel_8 : decode cX0_peel 8 = .ok (.aload_n 0, 1) := by decide +kernel
theorem dX0_peel_9 : decode cX0_peel 9 = .ok (.invokevirtual 87, 3) := by decide +kernel
theorem dX0_peel_12 : decode cX0_peel 12 = .ok (.istore_n 2, 1) := by decide +kernel
theorem dX0_peel_13 : decode cX0_peel 13 = .ok (.iload_n 2, 1) := by decide +kernel
theorem dX0_peel_14 : decode cX0_peel 14 = .ok (.iconst 0, 1) := by decide +kernel
theorem dX0_peel_15 : decode cX0_peel 15 = .ok (.bipush 23, 2) := by decide +kernel
theorem dX0_peel_17 : decode cX0_peel 17 = .ok (.invokestatic 83, 3) := by decide +kernel
theorem dX0_peel_20 : decode cX0_peel 20 = .ok (.ifCond .ne 4, 3) := by decide +kernel
theorem dX0_peel_23 : decode cX0_peel 23 = .ok (.return_, 1) := by decide +kernel
theorem dX0_peel_24 : decode cX0_peel 24 = .ok (.aload_n 0, 1) := by decide +kernel
theorem dX0_peel_25 : decode cX0_peel 25 = .ok (.getfield 15, 3) := by decide +kernel
theorem dX0_peel_28 : decode cX0_peel 28 = .ok (.iload_n 2, 1) := by decide +kernel
theorem dX0_peel_29 : decode cX0_peel 29 = .ok (.iaload, 1) := by decide +kernel
theorem dX0_peel_30 : decode cX0_peel 30 = .ok (.istore_n 3, 1) := by decide +kernel
theorem dX0_peel_31 : decode cX0_peel 31 = .ok (.aload_n 0, 1) := by decide +kernel
theorem dX0_peel_32 : decode cX0_peel 32 = .ok (.getfield 18, 3) := by decide +kernel
theorem dX0_peel_35 : decode cX0_peel 35 = .ok (.iload_n 2, 1) := by decide +kernel
theorem dX0_peel_36 : decode cX0_peel 36 = .ok (.iaload, 1) := by decide +kernel
theorem dX0_peel_37 : decode cX0_peel 37 = .ok (.istore 4, 2) := by decide +kernel
theorem dX0_peel_39 : decode cX0_peel 39 = .ok (.aload_n 0, 1) := by decide +kernel
theorem dX0_peel_40 : decode cX0_peel 40 = .ok (.iload_n 2, 1) := by decide +kernel
theorem dX0_peel_41 : decode cX0_peel 41 = .ok (.invokevirtual 90, 3) := by decide +kernel
theorem dX0_peel_44 : decode cX0_peel 44 = .ok (.iload_n 3, 1) := by decide +kernel
theorem dX0_peel_45 : decode cX0_peel 45 = .ok (.ifCond .eq 10, 3) := by decide +kernel
theorem dX0_peel_48 : decode cX0_peel 48 = .ok (.aload_n 0, 1) := by decide +kernel
theorem dX0_peel_49 : decode cX0_peel 49 = .ok (.iload_n 3, 1) := by decide +kernel
theorem dX0_peel_50 : decode cX0_peel 50 = .ok (.iload 4, 2) := by decide +kernel
theorem dX0_peel_52 : decode cX0_peel 52 = .ok (.invokevirtual 64, 3) := by decide +kernel
theorem dX0_peel_55 : decode cX0_peel 55 = .ok (.iinc 1 1, 3) := by decide +kernel
theorem dX0_peel_58 : decode cX0_peel 58 = .ok (.goto (-56), 3) := by decide +kernel
theorem dX0_peel_61 : decode cX0_peel 61 = .ok (.return_, 1) := by decide +kernel
theorem dX0_firstPeelable_0 : decode cX0_firstPeelable 0 = .ok (.iconst 0, 1) := by decide +kernel
theorem dX0_firstPeelable_1 : decode cX0_firstPeelable 1 = .ok (.istore_n 1, 1) := by decide +kernel
theorem dX0_firstPeelable_2 : decode cX0_firstPeelable 2 = .ok (.iload_n 1, 1) := by decide +kernel
theorem dX0_firstPeelable_3 : decode cX0_firstPeelable 3 = .ok (.bipush 24, 2) := by decide +kernel
theorem dX0_firstPeelable_5 : decode cX0_firstPeelable 5 = .ok (.if_icmp .ge 32, 3) := by decide +kernel
theorem dX0_firstPeelable_8 : decode cX0_firstPeelable 8 = .ok (.iload_n 1, 1) := by decide +kernel
theorem dX0_firstPeelable_9 : decode cX0_firstPeelable 9 = .ok (.aload_n 0, 1) := by decide +kernel
theorem dX0_firstPeelable_10 : decode cX0_firstPeelable 10 = .ok (.getfield 25, 3) := by decide +kernel
theorem dX0_firstPeelable_13 : decode cX0_firstPeelable 13 = .ok (.if_icmp .ge 18, 3) := by decide +kernel
theorem dX0_firstPeelable_16 : decode cX0_firstPeelable 16 = .ok (.aload_n 0, 1) := by decide +kernel
theorem dX0_firstPeelable_17 : decode cX0_firstPeelable 17 = .ok (.getfield 15, 3) := by decide +kernel
theorem dX0_firstPeelable_20 : decode cX0_firstPeelable 20 = .ok (.iload_n 1, 1) := by decide +kernel
theorem dX0_firstPeelable_21 : decode cX0_firstPeelable 21 = .ok (.iaload, 1) := by decide +kernel
theorem dX0_firstPeelable_22 : decode cX0_firstPeelable 22 = .ok (.invokestatic 43, 3) := by decide +kernel
theorem dX0_firstPeelable_25 : decode cX0_firstPeelable 25 = .ok (.iconst 2, 1) := by decide +kernel
theorem dX0_firstPeelable_26 : decode cX0_firstPeelable 26 = .ok (.if_icmp .ge 5, 3) := by decide +kernel
theorem dX0_firstPeelable_29 : decode cX0_firstPeelable 29 = .ok (.iload_n 1, 1) := by decide +kernel
theorem dX0_firstPeelable_30 : decode cX0_firstPeelable 30 = .ok (.ireturn, 1) := by decide +kernel
theorem dX0_firstPeelable_31 : decode cX0_firstPeelable 31 = .ok (.iinc 1 1, 3) := by decide +kernel
theorem dX0_firstPeelable_34 : decode cX0_firstPeelable 34 = .ok (.goto (-32), 3) := by decide +kernel
theorem dX0_firstPeelable_37 : decode cX0_firstPeelable 37 = .ok (.bipush (-6), 2) := by decide +kernel
theorem dX0_firstPeelable_39 : decode cX0_firstPeelable 39 = .ok (.ireturn, 1) := by decide +kernel
theorem dX0_removeKept_0 : decode cX0_removeKept 0 = .ok (.iconst 0, 1) := by decide +kernel
theorem dX0_removeKept_1 : decode cX0_removeKept 1 = .ok (.istore_n 2, 1) := by decide +kernel
theorem dX0_removeKept_2 : decode cX0_removeKept 2 = .ok (.iload_n 2, 1) := by decide +kernel
theorem dX0_removeKept_3 : decode cX0_removeKept 3 = .ok (.iconst 1, 1) := by decide +kernel
theorem dX0_removeKept_4 : decode cX0_removeKept 4 = .ok (.iadd, 1) := by decide +kernel
theorem dX0_removeKept_5 : decode cX0_removeKept 5 = .ok (.bipush 24, 2) := by decide +kernel
theorem dX0_removeKept_7 : decode cX0_removeKept 7 = .ok (.if_icmp .ge 42, 3) := by decide +kernel
theorem dX0_removeKept_10 : decode cX0_removeKept 10 = .ok (.iload_n 2, 1) := by decide +kernel
theorem dX0_removeKept_11 : decode cX0_removeKept 11 = .ok (.iload_n 1, 1) := by decide +kernel
theorem dX0_removeKept_12 : decode cX0_removeKept 12 = .ok (.if_icmp .lt 31, 3) := by decide +kernel
theorem dX0_removeKept_15 : decode cX0_removeKept 15 = .ok (.aload_n 0, 1) := by decide +kernel
theorem dX0_removeKept_16 : decode cX0_removeKept 16 = .ok (.getfield 15, 3) := by decide +kernel
theorem dX0_removeKept_19 : decode cX0_removeKept 19 = .ok (.iload_n 2, 1) := by decide +kernel
theorem dX0_removeKept_20 : decode cX0_removeKept 20 = .ok (.aload_n 0, 1) := by decide +kernel
theorem dX0_removeKept_21 : decode cX0_removeKept 21 = .ok (.getfield 15, 3) := by decide +kernel
theorem dX0_removeKept_24 : decode cX0_removeKept 24 = .ok (.iload_n 2, 1) := by decide +kernel
theorem dX0_removeKept_25 : decode cX0_removeKept 25 = .ok (.iconst 1, 1) := by decide +kernel
theorem dX0_removeKept_26 : decode cX0_removeKept 26 = .ok (.iadd, 1) := by decide +kernel
theorem dX0_removeKept_27 : decode cX0_removeKept 27 = .ok (.iaload, 1) := by decide +kernel
theorem dX0_removeKept_28 : decode cX0_removeKept 28 = .ok (.iastore, 1) := by decide +kernel
theorem dX0_removeKept_29 : decode cX0_removeKept 29 = .ok (.aload_n 0, 1) := by decide +kernel
theorem dX0_removeKept_30 : decode cX0_removeKept 30 = .ok (.getfield 18, 3) := by decide +kernel
theorem dX0_removeKept_33 : decode cX0_removeKept 33 = .ok (.iload_n 2, 1) := by decide +kernel
theorem dX0_removeKept_34 : decode cX0_removeKept 34 = .ok (.aload_n 0, 1) := by decide +kernel
theorem dX0_removeKept_35 : decode cX0_removeKept 35 = .ok (.getfield 18, 3) := by decide +kernel
theorem dX0_removeKept_38 : decode cX0_removeKept 38 = .ok (.iload_n 2, 1) := by decide +kernel
theorem dX0_removeKept_39 : decode cX0_removeKept 39 = .ok (.iconst 1, 1) := by decide +kernel
theorem dX0_removeKept_40 : decode cX0_removeKept 40 = .ok (.iadd, 1) := by decide +kernel
theorem dX0_removeKept_41 : decode cX0_removeKept 41 = .ok (.iaload, 1) := by decide +kernel
theorem dX0_removeKept_42 : decode cX0_removeKept 42 = .ok (.iastore, 1) := by decide +kernel
theorem dX0_removeKept_43 : decode cX0_removeKept 43 = .ok (.iinc 2 1, 3) := by decide +kernel
theorem dX0_removeKept_46 : decode cX0_removeKept 46 = .ok (.goto (-44), 3) := by decide +kernel
theorem dX0_removeKept_49 : decode cX0_removeKept 49 = .ok (.aload_n 0, 1) := by decide +kernel
theorem dX0_removeKept_50 : decode cX0_removeKept 50 = .ok (.getfield 15, 3) := by decide +kernel
theorem dX0_removeKept_53 : decode cX0_removeKept 53 = .ok (.bipush 23, 2) := by decide +kernel
theorem dX0_removeKept_55 : decode cX0_removeKept 55 = .ok (.iconst 0, 1) := by decide +kernel
theorem dX0_removeKept_56 : decode cX0_removeKept 56 = .ok (.iastore, 1) := by decide +kernel
theorem dX0_removeKept_57 : decode cX0_removeKept 57 = .ok (.aload_n 0, 1) := by decide +kernel
theorem dX0_removeKept_58 : decode cX0_removeKept 58 = .ok (.getfield 18, 3) := by decide +kernel
theorem dX0_removeKept_61 : decode cX0_removeKept 61 = .ok (.bipush 23, 2) := by decide +kernel
theorem dX0_removeKept_63 : decode cX0_removeKept 63 = .ok (.iconst 0, 1) := by decide +kernel
theorem dX0_removeKept_64 : decode cX0_removeKept 64 = .ok (.iastore, 1) := by decide +kernel
theorem dX0_removeKept_65 : decode cX0_removeKept 65 = .ok (.aload_n 0, 1) := by decide +kernel
theorem dX0_removeKept_66 : decode cX0_removeKept 66 = .ok (.dup, 1) := by decide +kernel
theorem dX0_removeKept_67 : decode cX0_removeKept 67 = .ok (.getfield 25, 3) := by decide +kernel
theorem dX0_removeKept_70 : decode cX0_removeKept 70 = .ok (.iconst 1, 1) := by decide +kernel
theorem dX0_removeKept_71 : decode cX0_removeKept 71 = .ok (.isub, 1) := by decide +kernel
theorem dX0_removeKept_72 : decode cX0_removeKept 72 = .ok (.putfield 25, 3) := by decide +kernel
theorem dX0_removeKept_75 : decode cX0_removeKept 75 = .ok (.return_, 1) := by decide +kernel
theorem dX1_init_0 : decode cX1_init 0 = .ok (.aload_n 0, 1) := by decide +kernel
theorem dX1_init_1 : decode cX1_init 1 = .ok (.invokespecial 3, 3) := by decide +kernel
theorem dX1_init_4 : decode cX1_init 4 = .ok (.return_, 1) := by decide +kernel
theorem dX1_makeFrom_0 : decode cX1_makeFrom 0 = .ok (.aload_n 0, 1) := by decide +kernel
theorem dX1_makeFrom_1 : decode cX1_makeFrom 1 = .ok (.iconst 0, 1) := by decide +kernel
theorem dX1_makeFrom_2 : decode cX1_makeFrom 2 = .ok (.putfield 9, 3) := by decide +kernel
theorem dX1_makeFrom_5 : decode cX1_makeFrom 5 = .ok (.aload_n 0, 1) := by decide +kernel
theorem dX1_makeFrom_6 : decode cX1_makeFrom 6 = .ok (.iconst 0, 1) := by decide +kernel
theorem dX1_makeFrom_7 : decode cX1_makeFrom 7 = .ok (.putfield 15, 3) := by decide +kernel
theorem dX1_makeFrom_10 : decode cX1_makeFrom 10 = .ok (.aload_n 0, 1) := by decide +kernel
theorem dX1_makeFrom_11 : decode cX1_makeFrom 11 = .ok (.iconst 0, 1) := by decide +kernel
theorem dX1_makeFrom_12 : decode cX1_makeFrom 12 = .ok (.putfield 19, 3) := by decide +kernel
theorem dX1_makeFrom_15 : decode cX1_makeFrom 15 = .ok (.aload_n 0, 1) := by decide +kernel
theorem dX1_makeFrom_16 : decode cX1_makeFrom 16 = .ok (.iconst 0, 1) := by decide +kernel
theorem dX1_makeFrom_17 : decode cX1_makeFrom 17 = .ok (.putfield 22, 3) := by decide +kernel
theorem dX1_makeFrom_20 : decode cX1_makeFrom 20 = .ok (.aload_n 1, 1) := by decide +kernel
theorem dX1_makeFrom_21 : decode cX1_makeFrom 21 = .ok (.getfield 25, 3) := by decide +kernel
theorem dX1_makeFrom_24 : decode cX1_makeFrom 24 = .ok (.istore_n 3, 1) := by decide +kernel
theorem dX1_makeFrom_25 : decode cX1_makeFrom 25 = .ok (.iload_n 3, 1) := by decide +kernel
theorem dX1_makeFrom_26 : decode cX1_makeFrom 26 = .ok (.ifCond .gt 4, 3) := by decide +kernel
theorem dX1_makeFrom_29 : decode cX1_makeFrom 29 = .ok (.return_, 1) := by decide +kernel
theorem dX1_makeFrom_30 : decode cX1_makeFrom 30 = .ok (.iload_n 2, 1) := by decide +kernel
theorem dX1_makeFrom_31 : decode cX1_makeFrom 31 = .ok (.invokestatic 30, 3) := by decide +kernel
theorem dX1_makeFrom_34 : decode cX1_makeFrom 34 = .ok (.istore 4, 2) := by decide +kernel
theorem dX1_makeFrom_36 : decode cX1_makeFrom 36 = .ok (.aload_n 0, 1) := by decide +kernel
theorem dX1_makeFrom_37 : decode cX1_makeFrom 37 = .ok (.iload 4, 2) := by decide +kernel
theorem dX1_makeFrom_39 : decode cX1_makeFrom 39 = .ok (.bipush 100, 2) := by decide +kernel
theorem dX1_makeFrom_41 : decode cX1_makeFrom 41 = .ok (.irem, 1) := by decide +kernel
theorem dX1_makeFrom_42 : decode cX1_makeFrom 42 = .ok (.aload_n 1, 1) := by decide +kernel
theorem dX1_makeFrom_43 : decode cX1_makeFrom 43 = .ok (.getfield 34, 3) := by decide +kernel
theorem dX1_makeFrom_46 : decode cX1_makeFrom 46 = .ok (.if_icmp .ge 7, 3) := by decide +kernel
theorem dX1_makeFrom_49 : decode cX1_makeFrom 49 = .ok (.iconst 1, 1) := by decide +kernel
theorem dX1_makeFrom_50 : decode cX1_makeFrom 50 = .ok (.goto 4, 3) := by decide +kernel
theorem dX1_makeFrom_53 : decode cX1_makeFrom 53 = .ok (.iconst 0, 1) := by decide +kernel
theorem dX1_makeFrom_54 : decode cX1_makeFrom 54 = .ok (.putfield 9, 3) := by decide +kernel
theorem dX1_makeFrom_57 : decode cX1_makeFrom 57 = .ok (.iload 4, 2) := by decide +kernel
theorem dX1_makeFrom_59 : decode cX1_makeFrom 59 = .ok (.invokestatic 30, 3) := by decide +kernel
theorem dX1_makeFrom_62 : decode cX1_makeFrom 62 = .ok (.istore 4, 2) := by decide +kernel
theorem dX1_makeFrom_64 : decode cX1_makeFrom 64 = .ok (.aload_n 0, 1) := by decide +kernel
theorem dX1_makeFrom_65 : decode cX1_makeFrom 65 = .ok (.aload_n 1, 1) := by decide +kernel
theorem dX1_makeFrom_66 : decode cX1_makeFrom 66 = .ok (.getfield 37, 3) := by decide +kernel
theorem dX1_makeFrom_69 : decode cX1_makeFrom 69 = .ok (.iload 4, 2) := by decide +kernel
theorem dX1_makeFrom_71 : decode cX1_makeFrom 71 = .ok (.iload_n 3, 1) := by decide +kernel
theorem dX1_makeFrom_72 : decode cX1_makeFrom 72 = .ok (.invokestatic 40, 3) := by decide +kernel
theorem dX1_makeFrom_75 : decode cX1_makeFrom 75 = .ok (.putfield 15, 3) := by decide +kernel
theorem dX1_makeFrom_78 : decode cX1_makeFrom 78 = .ok (.iconst 0, 1) := by decide +kernel
theorem dX1_makeFrom_79 : decode cX1_makeFrom 79 = .ok (.istore 5, 2) := by decide +kernel
theorem dX1_makeFrom_81 : decode cX1_makeFrom 81 = .ok (.iload 5, 2) := by decide +kernel
theorem dX1_makeFrom_83 : decode cX1_makeFrom 83 = .ok (.aload_n 0, 1) := by decide +kernel
theorem dX1_makeFrom_84 : decode cX1_makeFrom 84 = .ok (.getfield 15, 3) := by decide +kernel
theorem dX1_makeFrom_87 : decode cX1_makeFrom 87 = .ok (.if_icmp .ge 25, 3) := by decide +kernel
theorem dX1_makeFrom_90 : decode cX1_makeFrom 90 = .ok (.iload 4, 2) := by decide +kernel
theorem dX1_makeFrom_92 : decode cX1_makeFrom 92 = .ok (.invokestatic 30, 3) := by decide +kernel
theorem dX1_makeFrom_95 : decode cX1_makeFrom 95 = .ok (.istore 4, 2) := by decide +kernel
theorem dX1_makeFrom_97 : decode cX1_makeFrom 97 = .ok (.aload_n 0, 1) := by decide +kernel
theorem dX1_makeFrom_98 : decode cX1_makeFrom 98 = .ok (.aload_n 1, 1) := by decide +kernel
theorem dX1_makeFrom_99 : decode cX1_makeFrom 99 = .ok (.iload 4, 2) := by decide +kernel
theorem dX1_makeFrom_101 : decode cX1_makeFrom 101 = .ok (.iload_n 3, 1) := by decide +kernel
theorem dX1_makeFrom_102 : decode cX1_makeFrom 102 = .ok (.irem, 1) := by decide +kernel
theorem dX1_makeFrom_103 : decode cX1_makeFrom 103 = .ok (.invokevirtual 44, 3) := by decide +kernel
theorem dX1_makeFrom_106 : decode cX1_makeFrom 106 = .ok (.iinc 5 1, 3) := by decide +kernel
theorem dX1_makeFrom_109 : decode cX1_makeFrom 109 = .ok (.goto (-28), 3) := by decide +kernel
theorem dX1_makeFrom_112 : decode cX1_makeFrom 112 = .ok (.return_, 1) := by decide +kernel
theorem dX1_addFrom_0 : decode cX1_addFrom 0 = .ok (.iload_n 2, 1) := by decide +kernel
theorem dX1_addFrom_1 : decode cX1_addFrom 1 = .ok (.istore_n 3, 1) := by decide +kernel
theorem dX1_addFrom_2 : decode cX1_addFrom 2 = .ok (.iconst 0, 1) := by decide +kernel
theorem dX1_addFrom_3 : decode cX1_addFrom 3 = .ok (.istore 4, 2) := by decide +kernel
theorem dX1_addFrom_5 : decode cX1_addFrom 5 = .ok (.iload 4, 2) := by decide +kernel
theorem dX1_addFrom_7 : decode cX1_addFrom 7 = .ok (.bipush 16, 2) := by decide +kernel
theorem dX1_addFrom_9 : decode cX1_addFrom 9 = .ok (.if_icmp .ge 38, 3) := by decide +kernel
theorem dX1_addFrom_12 : decode cX1_addFrom 12 = .ok (.aload_n 0, 1) := by decide +kernel
theorem dX1_addFrom_13 : decode cX1_addFrom 13 = .ok (.getfield 19, 3) := by decide +kernel
theorem dX1_addFrom_16 : decode cX1_addFrom 16 = .ok (.iconst 1, 1) := by decide +kernel
theorem dX1_addFrom_17 : decode cX1_addFrom 17 = .ok (.iload_n 3, 1) := by decide +kernel
theorem dX1_addFrom_18 : decode cX1_addFrom 18 = .ok (.ishl, 1) := by decide +kernel
theorem dX1_addFrom_19 : decode cX1_addFrom 19 = .ok (.iand, 1) := by decide +kernel
theorem dX1_addFrom_20 : decode cX1_addFrom 20 = .ok (.ifCond .eq 27, 3) := by decide +kernel
theorem dX1_addFrom_23 : decode cX1_addFrom 23 = .ok (.iload_n 3, 1) := by decide +kernel
theorem dX1_addFrom_24 : decode cX1_addFrom 24 = .ok (.iconst 1, 1) := by decide +kernel
theorem dX1_addFrom_25 : decode cX1_addFrom 25 = .ok (.iadd, 1) := by decide +kernel
theorem dX1_addFrom_26 : decode cX1_addFrom 26 = .ok (.aload_n 1, 1) := by decide +kernel
theorem dX1_addFrom_27 : decode cX1_addFrom 27 = .ok (.getfield 25, 3) := by decide +kernel
theorem dX1_addFrom_30 : decode cX1_addFrom 30 = .ok (.if_icmp .ge 9, 3) := by decide +kernel
theorem dX1_addFrom_33 : decode cX1_addFrom 33 = .ok (.iload_n 3, 1) := by decide +kernel
theorem dX1_addFrom_34 : decode cX1_addFrom 34 = .ok (.iconst 1, 1) := by decide +kernel
theorem dX1_addFrom_35 : decode cX1_addFrom 35 = .ok (.iadd, 1) := by decide +kernel
theorem dX1_addFrom_36 : decode cX1_addFrom 36 = .ok (.goto 4, 3) := by decide +kernel
theorem dX1_addFrom_39 : decode cX1_addFrom 39 = .ok (.iconst 0, 1) := by decide +kernel
theorem dX1_addFrom_40 : decode cX1_addFrom 40 = .ok (.istore_n 3, 1) := by decide +kernel
theorem dX1_addFrom_41 : decode cX1_addFrom 41 = .ok (.iinc 4 1, 3) := by decide +kernel
theorem dX1_addFrom_44 : decode cX1_addFrom 44 = .ok (.goto (-39), 3) := by decide +kernel
theorem dX1_addFrom_47 : decode cX1_addFrom 47 = .ok (.iload_n 3, 1) := by decide +kernel
theorem dX1_addFrom_48 : decode cX1_addFrom 48 = .ok (.iconst 0, 1) := by decide +kernel
theorem dX1_addFrom_49 : decode cX1_addFrom 49 = .ok (.bipush 15, 2) := by decide +kernel
theorem dX1_addFrom_51 : decode cX1_addFrom 51 = .ok (.invokestatic 48, 3) := by decide +kernel
theorem dX1_addFrom_54 : decode cX1_addFrom 54 = .ok (.ifCond .eq 30, 3) := by decide +kernel
theorem dX1_addFrom_57 : decode cX1_addFrom 57 = .ok (.aload_n 0, 1) := by decide +kernel
theorem dX1_addFrom_58 : decode cX1_addFrom 58 = .ok (.dup, 1) := by decide +kernel
theorem dX1_addFrom_59 : decode cX1_addFrom 59 = .ok (.getfield 19, 3) := by decide +kernel
theorem dX1_addFrom_62 : decode cX1_addFrom 62 = .ok (.iconst 1, 1) := by decide +kernel
theorem dX1_addFrom_63 : decode cX1_addFrom 63 = .ok (.iload_n 3, 1) := by decide +kernel
theorem dX1_addFrom_64 : decode cX1_addFrom 64 = .ok (.ishl, 1) := by decide +kernel
theorem dX1_addFrom_65 : decode cX1_addFrom 65 = .ok (.ior, 1) := by decide +kernel
theorem dX1_addFrom_66 : decode cX1_addFrom 66 = .ok (.putfield 19, 3) := by decide +kernel
theorem dX1_addFrom_69 : decode cX1_addFrom 69 = .ok (.aload_n 0, 1) := by decide +kernel
theorem dX1_addFrom_70 : decode cX1_addFrom 70 = .ok (.dup, 1) := by decide +kernel
theorem dX1_addFrom_71 : decode cX1_addFrom 71 = .ok (.getfield 22, 3) := by decide +kernel
theorem dX1_addFrom_74 : decode cX1_addFrom 74 = .ok (.aload_n 1, 1) := by decide +kernel
theorem dX1_addFrom_75 : decode cX1_addFrom 75 = .ok (.getfield 52, 3) := by decide +kernel
theorem dX1_addFrom_78 : decode cX1_addFrom 78 = .ok (.iload_n 3, 1) := by decide +kernel
theorem dX1_addFrom_79 : decode cX1_addFrom 79 = .ok (.iaload, 1) := by decide +kernel
theorem dX1_addFrom_80 : decode cX1_addFrom 80 = .ok (.ixor, 1) := by decide +kernel
theorem dX1_addFrom_81 : decode cX1_addFrom 81 = .ok (.putfield 22, 3) := by decide +kernel
theorem dX1_addFrom_84 : decode cX1_addFrom 84 = .ok (.return_, 1) := by decide +kernel
theorem dX1_nextDraw_0 : decode cX1_nextDraw 0 = .ok (.bipush 75, 2) := by decide +kernel
theorem dX1_nextDraw_2 : decode cX1_nextDraw 2 = .ok (.iload_n 0, 1) := by decide +kernel
theorem dX1_nextDraw_3 : decode cX1_nextDraw 3 = .ok (.imul, 1) := by decide +kernel
theorem dX1_nextDraw_4 : decode cX1_nextDraw 4 = .ok (.bipush 74, 2) := by decide +kernel
theorem dX1_nextDraw_6 : decode cX1_nextDraw 6 = .ok (.iadd, 1) := by decide +kernel
theorem dX1_nextDraw_7 : decode cX1_nextDraw 7 = .ok (.ldc 56, 2) := by decide +kernel
theorem dX1_nextDraw_9 : decode cX1_nextDraw 9 = .ok (.irem, 1) := by decide +kernel
theorem dX1_nextDraw_10 : decode cX1_nextDraw 10 = .ok (.ireturn, 1) := by decide +kernel
theorem dX1_degreeBy_0 : decode cX1_degreeBy 0 = .ok (.iload_n 0, 1) := by decide +kernel
theorem dX1_degreeBy_1 : decode cX1_degreeBy 1 = .ok (.iconst 1, 1) := by decide +kernel
theorem dX1_degreeBy_2 : decode cX1_degreeBy 2 = .ok (.if_icmp .ne 15, 3) := by decide +kernel
theorem dX1_degreeBy_5 : decode cX1_degreeBy 5 = .ok (.iload_n 1, 1) := by decide +kernel
theorem dX1_degreeBy_6 : decode cX1_degreeBy 6 = .ok (.bipush 24, 2) := by decide +kernel
theorem dX1_degreeBy_8 : decode cX1_degreeBy 8 = .ok (.irem, 1) := by decide +kernel
theorem dX1_degreeBy_9 : decode cX1_degreeBy 9 = .ok (.invokestatic 57, 3) := by decide +kernel
theorem dX1_degreeBy_12 : decode cX1_degreeBy 12 = .ok (.iload_n 2, 1) := by decide +kernel
theorem dX1_degreeBy_13 : decode cX1_degreeBy 13 = .ok (.invokestatic 60, 3) := by decide +kernel
theorem dX1_degreeBy_16 : decode cX1_degreeBy 16 = .ok (.ireturn, 1) := by decide +kernel
theorem dX1_degreeBy_17 : decode cX1_degreeBy 17 = .ok (.iload_n 0, 1) := by decide +kernel
theorem dX1_degreeBy_18 : decode cX1_degreeBy 18 = .ok (.iconst 2, 1) := by decide +kernel
theorem dX1_degreeBy_19 : decode cX1_degreeBy 19 = .ok (.if_icmp .ne 15, 3) := by decide +kernel
theorem dX1_degreeBy_22 : decode cX1_degreeBy 22 = .ok (.iload_n 1, 1) := by decide +kernel
theorem dX1_degreeBy_23 : decode cX1_degreeBy 23 = .ok (.iconst 4, 1) := by decide +kernel
theorem dX1_degreeBy_24 : decode cX1_degreeBy 24 = .ok (.irem, 1) := by decide +kernel
theorem dX1_degreeBy_25 : decode cX1_degreeBy 25 = .ok (.ifCond .ne 7, 3) := by decide +kernel
theorem dX1_degreeBy_28 : decode cX1_degreeBy 28 = .ok (.iconst 1, 1) := by decide +kernel
theorem dX1_degreeBy_29 : decode cX1_degreeBy 29 = .ok (.goto 4, 3) := by decide +kernel
theorem dX1_degreeBy_32 : decode cX1_degreeBy 32 = .ok (.iload_n 2, 1) := by decide +kernel
theorem dX1_degreeBy_33 : decode cX1_degreeBy 33 = .ok (.ireturn, 1) := by decide +kernel
theorem dX1_degreeBy_34 : decode cX1_degreeBy 34 = .ok (.iload_n 2, 1) := by decide +kernel
theorem dX1_degreeBy_35 : decode cX1_degreeBy 35 = .ok (.ifCond .le 11, 3) := by decide +kernel
theorem dX1_degreeBy_38 : decode cX1_degreeBy 38 = .ok (.iconst 1, 1) := by decide +kernel
theorem dX1_degreeBy_39 : decode cX1_degreeBy 39 = .ok (.iload_n 1, 1) := by decide +kernel
theorem dX1_degreeBy_40 : decode cX1_degreeBy 40 = .ok (.iload_n 2, 1) := by decide +kernel
theorem dX1_degreeBy_41 : decode cX1_degreeBy 41 = .ok (.irem, 1) := by decide +kernel
theorem dX1_degreeBy_42 : decode cX1_degreeBy 42 = .ok (.iadd, 1) := by decide +kernel
theorem dX1_degreeBy_43 : decode cX1_degreeBy 43 = .ok (.goto 4, 3) := by decide +kernel
theorem dX1_degreeBy_46 : decode cX1_degreeBy 46 = .ok (.iconst 0, 1) := by decide +kernel
theorem dX1_degreeBy_47 : decode cX1_degreeBy 47 = .ok (.ireturn, 1) := by decide +kernel
theorem dX1_commonDegree_0 : decode cX1_commonDegree 0 = .ok (.iload_n 0, 1) := by decide +kernel
theorem dX1_commonDegree_1 : decode cX1_commonDegree 1 = .ok (.iconst 4, 1) := by decide +kernel
theorem dX1_commonDegree_2 : decode cX1_commonDegree 2 = .ok (.if_icmp .ge 5, 3) := by decide +kernel
theorem dX1_commonDegree_5 : decode cX1_commonDegree 5 = .ok (.iconst 1, 1) := by decide +kernel
theorem dX1_commonDegree_6 : decode cX1_commonDegree 6 = .ok (.ireturn, 1) := by decide +kernel
theorem dX1_commonDegree_7 : decode cX1_commonDegree 7 = .ok (.iload_n 0, 1) := by decide +kernel
theorem dX1_commonDegree_8 : decode cX1_commonDegree 8 = .ok (.bipush 16, 2) := by decide +kernel
theorem dX1_commonDegree_10 : decode cX1_commonDegree 10 = .ok (.if_icmp .ge 5, 3) := by decide +kernel
theorem dX1_commonDegree_13 : decode cX1_commonDegree 13 = .ok (.iconst 2, 1) := by decide +kernel
theorem dX1_commonDegree_14 : decode cX1_commonDegree 14 = .ok (.ireturn, 1) := by decide +kernel
theorem dX1_commonDegree_15 : decode cX1_commonDegree 15 = .ok (.iload_n 0, 1) := by decide +kernel
theorem dX1_commonDegree_16 : decode cX1_commonDegree 16 = .ok (.bipush 20, 2) := by decide +kernel
theorem dX1_commonDegree_18 : decode cX1_commonDegree 18 = .ok (.if_icmp .ge 7, 3) := by decide +kernel
theorem dX1_commonDegree_21 : decode cX1_commonDegree 21 = .ok (.iconst 3, 1) := by decide +kernel
theorem dX1_commonDegree_22 : decode cX1_commonDegree 22 = .ok (.goto 4, 3) := by decide +kernel
theorem dX1_commonDegree_25 : decode cX1_commonDegree 25 = .ok (.iconst 4, 1) := by decide +kernel
theorem dX1_commonDegree_26 : decode cX1_commonDegree 26 = .ok (.ireturn, 1) := by decide +kernel
theorem dX2_init_0 : decode cX2_init 0 = .ok (.aload_n 0, 1) := by decide +kernel
theorem dX2_init_1 : decode cX2_init 1 = .ok (.invokespecial 3, 3) := by decide +kernel
theorem dX2_init_4 : decode cX2_init 4 = .ok (.aload_n 0, 1) := by decide +kernel
theorem dX2_init_5 : decode cX2_init 5 = .ok (.bipush 7, 2) := by decide +kernel
theorem dX2_init_7 : decode cX2_init 7 = .ok (.anewarray 11, 3) := by decide +kernel
theorem dX2_init_10 : decode cX2_init 10 = .ok (.putfield 13, 3) := by decide +kernel
theorem dX2_init_13 : decode cX2_init 13 = .ok (.iconst 0, 1) := by decide +kernel
theorem dX2_init_14 : decode cX2_init 14 = .ok (.istore_n 1, 1) := by decide +kernel
theorem dX2_init_15 : decode cX2_init 15 = .ok (.iload_n 1, 1) := by decide +kernel
theorem dX2_init_16 : decode cX2_init 16 = .ok (.bipush 7, 2) := by decide +kernel
theorem dX2_init_18 : decode cX2_init 18 = .ok (.if_icmp .ge 22, 3) := by decide +kernel
theorem dX2_init_21 : decode cX2_init 21 = .ok (.aload_n 0, 1) := by decide +kernel
theorem dX2_init_22 : decode cX2_init 22 = .ok (.getfield 13, 3) := by decide +kernel
theorem dX2_init_25 : decode cX2_init 25 = .ok (.iload_n 1, 1) := by decide +kernel
theorem dX2_init_26 : decode cX2_init 26 = .ok (.new 11, 3) := by decide +kernel
theorem dX2_init_29 : decode cX2_init 29 = .ok (.dup, 1) := by decide +kernel
theorem dX2_init_30 : decode cX2_init 30 = .ok (.invokespecial 17, 3) := by decide +kernel
theorem dX2_init_33 : decode cX2_init 33 = .ok (.aastore, 1) := by decide +kernel
theorem dX2_init_34 : decode cX2_init 34 = .ok (.iinc 1 1, 3) := by decide +kernel
theorem dX2_init_37 : decode cX2_init 37 = .ok (.goto (-22), 3) := by decide +kernel
theorem dX2_init_40 : decode cX2_init 40 = .ok (.return_, 1) := by decide +kernel
theorem dX2_note_0 : decode cX2_note 0 = .ok (.aload_n 0, 1) := by decide +kernel
theorem dX2_note_1 : decode cX2_note 1 = .ok (.getfield 13, 3) := by decide +kernel
theorem dX2_note_4 : decode cX2_note 4 = .ok (.aload_n 0, 1) := by decide +kernel
theorem dX2_note_5 : decode cX2_note 5 = .ok (.invokevirtual 18, 3) := by decide +kernel
theorem dX2_note_8 : decode cX2_note 8 = .ok (.aaload, 1) := by decide +kernel
theorem dX2_note_9 : decode cX2_note 9 = .ok (.astore_n 2, 1) := by decide +kernel
theorem dX2_note_10 : decode cX2_note 10 = .ok (.aload_n 2, 1) := by decide +kernel
theorem dX2_note_11 : decode cX2_note 11 = .ok (.ifnull 8, 3) := by decide +kernel
theorem dX2_note_14 : decode cX2_note 14 = .ok (.aload_n 2, 1) := by decide +kernel
theorem dX2_note_15 : decode cX2_note 15 = .ok (.aload_n 1, 1) := by decide +kernel
theorem dX2_note_16 : decode cX2_note 16 = .ok (.invokevirtual 22, 3) := by decide +kernel
theorem dX2_note_19 : decode cX2_note 19 = .ok (.return_, 1) := by decide +kernel
theorem dX2_keepUnlessError_0 : decode cX2_keepUnlessError 0 = .ok (.iload_n 1, 1) := by decide +kernel
theorem dX2_keepUnlessError_1 : decode cX2_keepUnlessError 1 = .ok (.ifCond .ge 5, 3) := by decide +kernel
theorem dX2_keepUnlessError_4 : decode cX2_keepUnlessError 4 = .ok (.iload_n 1, 1) := by decide +kernel
theorem dX2_keepUnlessError_5 : decode cX2_keepUnlessError 5 = .ok (.ireturn, 1) := by decide +kernel
theorem dX2_keepUnlessError_6 : decode cX2_keepUnlessError 6 = .ok (.aload_n 0, 1) := by decide +kernel
theorem dX2_keepUnlessError_7 : decode cX2_keepUnlessError 7 = .ok (.getfield 26, 3) := by decide +kernel
theorem dX2_keepUnlessError_10 : decode cX2_keepUnlessError 10 = .ok (.bipush 6, 2) := by decide +kernel
theorem dX2_keepUnlessError_12 : decode cX2_keepUnlessError 12 = .ok (.if_icmp .ge 16, 3) := by decide +kernel
theorem dX2_keepUnlessError_15 : decode cX2_keepUnlessError 15 = .ok (.aload_n 0, 1) := by decide +kernel
theorem dX2_keepUnlessError_16 : decode cX2_keepUnlessError 16 = .ok (.dup, 1) := by decide +kernel
theorem dX2_keepUnlessError_17 : decode cX2_keepUnlessError 17 = .ok (.getfield 26, 3) := by decide +kernel
theorem dX2_keepUnlessError_20 : decode cX2_keepUnlessError 20 = .ok (.iconst 1, 1) := by decide +kernel
theorem dX2_keepUnlessError_21 : decode cX2_keepUnlessError 21 = .ok (.iadd, 1) := by decide +kernel
theorem dX2_keepUnlessError_22 : decode cX2_keepUnlessError 22 = .ok (.putfield 26, 3) := by decide +kernel
theorem dX2_keepUnlessError_25 : decode cX2_keepUnlessError 25 = .ok (.goto 18, 3) := by decide +kernel
theorem dX2_keepUnlessError_28 : decode cX2_keepUnlessError 28 = .ok (.aload_n 0, 1) := by decide +kernel
theorem dX2_keepUnlessError_29 : decode cX2_keepUnlessError 29 = .ok (.aload_n 0, 1) := by decide +kernel
theorem dX2_keepUnlessError_30 : decode cX2_keepUnlessError 30 = .ok (.getfield 30, 3) := by decide +kernel
theorem dX2_keepUnlessError_33 : decode cX2_keepUnlessError 33 = .ok (.iconst 1, 1) := by decide +kernel
theorem dX2_keepUnlessError_34 : decode cX2_keepUnlessError 34 = .ok (.iadd, 1) := by decide +kernel
theorem dX2_keepUnlessError_35 : decode cX2_keepUnlessError 35 = .ok (.bipush 7, 2) := by decide +kernel
theorem dX2_keepUnlessError_37 : decode cX2_keepUnlessError 37 = .ok (.invokestatic 33, 3) := by decide +kernel
theorem dX2_keepUnlessError_40 : decode cX2_keepUnlessError 40 = .ok (.putfield 30, 3) := by decide +kernel
theorem dX2_keepUnlessError_43 : decode cX2_keepUnlessError 43 = .ok (.iload_n 1, 1) := by decide +kernel
theorem dX2_keepUnlessError_44 : decode cX2_keepUnlessError 44 = .ok (.ireturn, 1) := by decide +kernel
theorem dX2_takeBackInto_0 : decode cX2_takeBackInto 0 = .ok (.aload_n 0, 1) := by decide +kernel
theorem dX2_takeBackInto_1 : decode cX2_takeBackInto 1 = .ok (.getfield 26, 3) := by decide +kernel
theorem dX2_takeBackInto_4 : decode cX2_takeBackInto 4 = .ok (.ifCond .gt 5, 3) := by decide +kernel
theorem dX2_takeBackInto_7 : decode cX2_takeBackInto 7 = .ok (.iconst 0, 1) := by decide +kernel
theorem dX2_takeBackInto_8 : decode cX2_takeBackInto 8 = .ok (.ireturn, 1) := by decide +kernel
theorem dX2_takeBackInto_9 : decode cX2_takeBackInto 9 = .ok (.aload_n 0, 1) := by decide +kernel
theorem dX2_takeBackInto_10 : decode cX2_takeBackInto 10 = .ok (.dup, 1) := by decide +kernel
theorem dX2_takeBackInto_11 : decode cX2_takeBackInto 11 = .ok (.getfield 26, 3) := by decide +kernel
theorem dX2_takeBackInto_14 : decode cX2_takeBackInto 14 = .ok (.iconst 1, 1) := by decide +kernel
theorem dX2_takeBackInto_15 : decode cX2_takeBackInto 15 = .ok (.isub, 1) := by decide +kernel
theorem dX2_takeBackInto_16 : decode cX2_takeBackInto 16 = .ok (.putfield 26, 3) := by decide +kernel
theorem dX2_takeBackInto_19 : decode cX2_takeBackInto 19 = .ok (.aload_n 0, 1) := by decide +kernel
theorem dX2_takeBackInto_20 : decode cX2_takeBackInto 20 = .ok (.getfield 13, 3) := by decide +kernel
theorem dX2_takeBackInto_23 : decode cX2_takeBackInto 23 = .ok (.aload_n 0, 1) := by decide +kernel
theorem dX2_takeBackInto_24 : decode cX2_takeBackInto 24 = .ok (.invokevirtual 18, 3) := by decide +kernel
theorem dX2_takeBackInto_27 : decode cX2_takeBackInto 27 = .ok (.aaload, 1) := by decide +kernel
theorem dX2_takeBackInto_28 : decode cX2_takeBackInto 28 = .ok (.astore_n 2, 1) := by decide +kernel
theorem dX2_takeBackInto_29 : decode cX2_takeBackInto 29 = .ok (.aload_n 2, 1) := by decide +kernel
theorem dX2_takeBackInto_30 : decode cX2_takeBackInto 30 = .ok (.ifnull 8, 3) := by decide +kernel
theorem dX2_takeBackInto_33 : decode cX2_takeBackInto 33 = .ok (.aload_n 1, 1) := by decide +kernel
theorem dX2_takeBackInto_34 : decode cX2_takeBackInto 34 = .ok (.aload_n 2, 1) := by decide +kernel
theorem dX2_takeBackInto_35 : decode cX2_takeBackInto 35 = .ok (.invokevirtual 22, 3) := by decide +kernel
theorem dX2_takeBackInto_38 : decode cX2_takeBackInto 38 = .ok (.iconst 1, 1) := by decide +kernel
theorem dX2_takeBackInto_39 : decode cX2_takeBackInto 39 = .ok (.ireturn, 1) := by decide +kernel
theorem dX2_placeBehindLast_0 : decode cX2_placeBehindLast 0 = .ok (.aload_n 0, 1) := by decide +kernel
theorem dX2_placeBehindLast_1 : decode cX2_placeBehindLast 1 = .ok (.getfield 30, 3) := by decide +kernel
theorem dX2_placeBehindLast_4 : decode cX2_placeBehindLast 4 = .ok (.aload_n 0, 1) := by decide +kernel
theorem dX2_placeBehindLast_5 : decode cX2_placeBehindLast 5 = .ok (.getfield 26, 3) := by decide +kernel
theorem dX2_placeBehindLast_8 : decode cX2_placeBehindLast 8 = .ok (.iadd, 1) := by decide +kernel
theorem dX2_placeBehindLast_9 : decode cX2_placeBehindLast 9 = .ok (.bipush 7, 2) := by decide +kernel
theorem dX2_placeBehindLast_11 : decode cX2_placeBehindLast 11 = .ok (.invokestatic 33, 3) := by decide +kernel
theorem dX2_placeBehindLast_14 : decode cX2_placeBehindLast 14 = .ok (.ireturn, 1) := by decide +kernel
theorem dX3_init_0 : decode cX3_init 0 = .ok (.aload_n 0, 1) := by decide +kernel
theorem dX3_init_1 : decode cX3_init 1 = .ok (.invokespecial 3, 3) := by decide +kernel
theorem dX3_init_4 : decode cX3_init 4 = .ok (.aload_n 0, 1) := by decide +kernel
theorem dX3_init_5 : decode cX3_init 5 = .ok (.bipush 80, 2) := by decide +kernel
theorem dX3_init_7 : decode cX3_init 7 = .ok (.newarray .char, 2) := by decide +kernel
theorem dX3_init_9 : decode cX3_init 9 = .ok (.putfield 9, 3) := by decide +kernel
theorem dX3_init_12 : decode cX3_init 12 = .ok (.return_, 1) := by decide +kernel
theorem dX3_append_0 : decode cX3_append 0 = .ok (.aload_n 0, 1) := by decide +kernel
theorem dX3_append_1 : decode cX3_append 1 = .ok (.getfield 15, 3) := by decide +kernel
theorem dX3_append_4 : decode cX3_append 4 = .ok (.ifCond .lt 32, 3) := by decide +kernel
theorem dX3_append_7 : decode cX3_append 7 = .ok (.aload_n 0, 1) := by decide +kernel
theorem dX3_append_8 : decode cX3_append 8 = .ok (.getfield 15, 3) := by decide +kernel
theorem dX3_append_11 : decode cX3_append 11 = .ok (.bipush 80, 2) := by decide +kernel
theorem dX3_append_13 : decode cX3_append 13 = .ok (.if_icmp .ge 23, 3) := by decide +kernel
theorem dX3_append_16 : decode cX3_append 16 = .ok (.aload_n 0, 1) := by decide +kernel
theorem dX3_append_17 : decode cX3_append 17 = .ok (.getfield 9, 3) := by decide +kernel
theorem dX3_append_20 : decode cX3_append 20 = .ok (.aload_n 0, 1) := by decide +kernel
theorem dX3_append_21 : decode cX3_append 21 = .ok (.getfield 15, 3) := by decide +kernel
theorem dX3_append_24 : decode cX3_append 24 = .ok (.iload_n 1, 1) := by decide +kernel
theorem dX3_append_25 : decode cX3_append 25 = .ok (.castore, 1) := by decide +kernel
theorem dX3_append_26 : decode cX3_append 26 = .ok (.aload_n 0, 1) := by decide +kernel
theorem dX3_append_27 : decode cX3_append 27 = .ok (.dup, 1) := by decide +kernel
theorem dX3_append_28 : decode cX3_append 28 = .ok (.getfield 15, 3) := by decide +kernel
theorem dX3_append_31 : decode cX3_append 31 = .ok (.iconst 1, 1) := by decide +kernel
theorem dX3_append_32 : decode cX3_append 32 = .ok (.iadd, 1) := by decide +kernel
theorem dX3_append_33 : decode cX3_append 33 = .ok (.putfield 15, 3) := by decide +kernel
theorem dX3_append_36 : decode cX3_append 36 = .ok (.return_, 1) := by decide +kernel
theorem dX3_goToStart_0 : decode cX3_goToStart 0 = .ok (.aload_n 0, 1) := by decide +kernel
theorem dX3_goToStart_1 : decode cX3_goToStart 1 = .ok (.iconst 0, 1) := by decide +kernel
theorem dX3_goToStart_2 : decode cX3_goToStart 2 = .ok (.putfield 19, 3) := by decide +kernel
theorem dX3_goToStart_5 : decode cX3_goToStart 5 = .ok (.return_, 1) := by decide +kernel
theorem dX3_findFault_0 : decode cX3_findFault 0 = .ok (.aload_n 0, 1) := by decide +kernel
theorem dX3_findFault_1 : decode cX3_findFault 1 = .ok (.invokevirtual 22, 3) := by decide +kernel
theorem dX3_findFault_4 : decode cX3_findFault 4 = .ok (.iconst 0, 1) := by decide +kernel
theorem dX3_findFault_5 : decode cX3_findFault 5 = .ok (.istore_n 1, 1) := by decide +kernel
theorem dX3_findFault_6 : decode cX3_findFault 6 = .ok (.iload_n 1, 1) := by decide +kernel
theorem dX3_findFault_7 : decode cX3_findFault 7 = .ok (.bipush 80, 2) := by decide +kernel
theorem dX3_findFault_9 : decode cX3_findFault 9 = .ok (.if_icmp .ge 49, 3) := by decide +kernel
theorem dX3_findFault_12 : decode cX3_findFault 12 = .ok (.aload_n 0, 1) := by decide +kernel
theorem dX3_findFault_13 : decode cX3_findFault 13 = .ok (.invokevirtual 25, 3) := by decide +kernel
theorem dX3_findFault_16 : decode cX3_findFault 16 = .ok (.ifCond .ne 8, 3) := by decide +kernel
theorem dX3_findFault_19 : decode cX3_findFault 19 = .ok (.aload_n 0, 1) := by decide +kernel
theorem dX3_findFault_20 : decode cX3_findFault 20 = .ok (.getfield 19, 3) := by decide +kernel
theorem dX3_findFault_23 : decode cX3_findFault 23 = .ok (.ireturn, 1) := by decide +kernel
theorem dX3_findFault_24 : decode cX3_findFault 24 = .ok (.aload_n 0, 1) := by decide +kernel
theorem dX3_findFault_25 : decode cX3_findFault 25 = .ok (.getfield 19, 3) := by decide +kernel
theorem dX3_findFault_28 : decode cX3_findFault 28 = .ok (.aload_n 0, 1) := by decide +kernel
theorem dX3_findFault_29 : decode cX3_findFault 29 = .ok (.getfield 15, 3) := by decide +kernel
theorem dX3_findFault_32 : decode cX3_findFault 32 = .ok (.if_icmp .lt 6, 3) := by decide +kernel
theorem dX3_findFault_35 : decode cX3_findFault 35 = .ok (.bipush (-6), 2) := by decide +kernel
theorem dX3_findFault_37 : decode cX3_findFault 37 = .ok (.ireturn, 1) := by decide +kernel
theorem dX3_findFault_38 : decode cX3_findFault 38 = .ok (.aload_n 0, 1) := by decide +kernel
theorem dX3_findFault_39 : decode cX3_findFault 39 = .ok (.bipush 59, 2) := by decide +kernel
theorem dX3_findFault_41 : decode cX3_findFault 41 = .ok (.invokevirtual 29, 3) := by decide +kernel
theorem dX3_findFault_44 : decode cX3_findFault 44 = .ok (.ifCond .ne 8, 3) := by decide +kernel
theorem dX3_findFault_47 : decode cX3_findFault 47 = .ok (.aload_n 0, 1) := by decide +kernel
theorem dX3_findFault_48 : decode cX3_findFault 48 = .ok (.getfield 19, 3) := by decide +kernel
theorem dX3_findFault_51 : decode cX3_findFault 51 = .ok (.ireturn, 1) := by decide +kernel
theorem dX3_findFault_52 : decode cX3_findFault 52 = .ok (.iinc 1 1, 3) := by decide +kernel
theorem dX3_findFault_55 : decode cX3_findFault 55 = .ok (.goto (-49), 3) := by decide +kernel
theorem dX3_findFault_58 : decode cX3_findFault 58 = .ok (.aload_n 0, 1) := by decide +kernel
theorem dX3_findFault_59 : decode cX3_findFault 59 = .ok (.getfield 19, 3) := by decide +kernel
theorem dX3_findFault_62 : decode cX3_findFault 62 = .ok (.ireturn, 1) := by decide +kernel
theorem dX3_readOrder_0 : decode cX3_readOrder 0 = .ok (.aload_n 0, 1) := by decide +kernel
theorem dX3_readOrder_1 : decode cX3_readOrder 1 = .ok (.aload_n 0, 1) := by decide +kernel
theorem dX3_readOrder_2 : decode cX3_readOrder 2 = .ok (.invokevirtual 33, 3) := by decide +kernel
theorem dX3_readOrder_5 : decode cX3_readOrder 5 = .ok (.putfield 37, 3) := by decide +kernel
theorem dX3_readOrder_8 : decode cX3_readOrder 8 = .ok (.aload_n 0, 1) := by decide +kernel
theorem dX3_readOrder_9 : decode cX3_readOrder 9 = .ok (.getfield 37, 3) := by decide +kernel
theorem dX3_readOrder_12 : decode cX3_readOrder 12 = .ok (.lookupswitch 132 #[(99, 44), (112, 71), (115, 117), (117, 59)], 44) := by decide +kernel
theorem dX3_readOrder_56 : decode cX3_readOrder 56 = .ok (.aload_n 0, 1) := by decide +kernel
theorem dX3_readOrder_57 : decode cX3_readOrder 57 = .ok (.dup, 1) := by decide +kernel
theorem dX3_readOrder_58 : decode cX3_readOrder 58 = .ok (.getfield 19, 3) := by decide +kernel
theorem dX3_readOrder_61 : decode cX3_readOrder 61 = .ok (.iconst 1, 1) := by decide +kernel
theorem dX3_readOrder_62 : decode cX3_readOrder 62 = .ok (.iadd, 1) := by decide +kernel
theorem dX3_readOrder_63 : decode cX3_readOrder 63 = .ok (.putfield 19, 3) := by decide +kernel
theorem dX3_readOrder_66 : decode cX3_readOrder 66 = .ok (.aload_n 0, 1) := by decide +kernel
theorem dX3_readOrder_67 : decode cX3_readOrder 67 = .ok (.invokevirtual 41, 3) := by decide +kernel
theorem dX3_readOrder_70 : decode cX3_readOrder 70 = .ok (.ireturn, 1) := by decide +kernel
theorem dX3_readOrder_71 : decode cX3_readOrder 71 = .ok (.aload_n 0, 1) := by decide +kernel
theorem dX3_readOrder_72 : decode cX3_readOrder 72 = .ok (.dup, 1) := by decide +kernel
theorem dX3_readOrder_73 : decode cX3_readOrder 73 = .ok (.getfield 19, 3) := by decide +kernel
theorem dX3_readOrder_76 : decode cX3_readOrder 76 = .ok (.iconst 1, 1) := by decide +kernel
theorem dX3_readOrder_77 : decode cX3_readOrder 77 = .ok (.iadd, 1) := by decide +kernel
theorem dX3_readOrder_78 : decode cX3_readOrder 78 = .ok (.putfield 19, 3) := by decide +kernel
theorem dX3_readOrder_81 : decode cX3_readOrder 81 = .ok (.iconst 1, 1) := by decide +kernel
theorem dX3_readOrder_82 : decode cX3_readOrder 82 = .ok (.ireturn, 1) := by decide +kernel
theorem dX3_readOrder_83 : decode cX3_readOrder 83 = .ok (.aload_n 0, 1) := by decide +kernel
theorem dX3_readOrder_84 : decode cX3_readOrder 84 = .ok (.dup, 1) := by decide +kernel
theorem dX3_readOrder_85 : decode cX3_readOrder 85 = .ok (.getfield 19, 3) := by decide +kernel
theorem dX3_readOrder_88 : decode cX3_readOrder 88 = .ok (.iconst 1, 1) := by decide +kernel
theorem dX3_readOrder_89 : decode cX3_readOrder 89 = .ok (.iadd, 1) := by decide +kernel
theorem dX3_readOrder_90 : decode cX3_readOrder 90 = .ok (.putfield 19, 3) := by decide +kernel
theorem dX3_readOrder_93 : decode cX3_readOrder 93 = .ok (.aload_n 0, 1) := by decide +kernel
theorem dX3_readOrder_94 : decode cX3_readOrder 94 = .ok (.invokevirtual 44, 3) := by decide +kernel
theorem dX3_readOrder_97 : decode cX3_readOrder 97 = .ok (.ifCond .eq 30, 3) := by decide +kernel
theorem dX3_readOrder_100 : decode cX3_readOrder 100 = .ok (.aload_n 0, 1) := by decide +kernel
theorem dX3_readOrder_101 : decode cX3_readOrder 101 = .ok (.bipush 46, 2) := by decide +kernel
theorem dX3_readOrder_103 : decode cX3_readOrder 103 = .ok (.invokevirtual 29, 3) := by decide +kernel
theorem dX3_readOrder_106 : decode cX3_readOrder 106 = .ok (.ifCond .eq 21, 3) := by decide +kernel
theorem dX3_readOrder_109 : decode cX3_readOrder 109 = .ok (.aload_n 0, 1) := by decide +kernel
theorem dX3_readOrder_110 : decode cX3_readOrder 110 = .ok (.invokevirtual 41, 3) := by decide +kernel
theorem dX3_readOrder_113 : decode cX3_readOrder 113 = .ok (.ifCond .eq 14, 3) := by decide +kernel
theorem dX3_readOrder_116 : decode cX3_readOrder 116 = .ok (.aload_n 0, 1) := by decide +kernel
theorem dX3_readOrder_117 : decode cX3_readOrder 117 = .ok (.invokevirtual 47, 3) := by decide +kernel
theorem dX3_readOrder_120 : decode cX3_readOrder 120 = .ok (.ifCond .eq 7, 3) := by decide +kernel
theorem dX3_readOrder_123 : decode cX3_readOrder 123 = .ok (.iconst 1, 1) := by decide +kernel
theorem dX3_readOrder_124 : decode cX3_readOrder 124 = .ok (.goto 4, 3) := by decide +kernel
theorem dX3_readOrder_127 : decode cX3_readOrder 127 = .ok (.iconst 0, 1) := by decide +kernel
theorem dX3_readOrder_128 : decode cX3_readOrder 128 = .ok (.ireturn, 1) := by decide +kernel
theorem dX3_readOrder_129 : decode cX3_readOrder 129 = .ok (.aload_n 0, 1) := by decide +kernel
theorem dX3_readOrder_130 : decode cX3_readOrder 130 = .ok (.dup, 1) := by decide +kernel
theorem dX3_readOrder_131 : decode cX3_readOrder 131 = .ok (.getfield 19, 3) := by decide +kernel
theorem dX3_readOrder_134 : decode cX3_readOrder 134 = .ok (.iconst 1, 1) := by decide +kernel
theorem dX3_readOrder_135 : decode cX3_readOrder 135 = .ok (.iadd, 1) := by decide +kernel
theorem dX3_readOrder_136 : decode cX3_readOrder 136 = .ok (.putfield 19, 3) := by decide +kernel
theorem dX3_readOrder_139 : decode cX3_readOrder 139 = .ok (.aload_n 0, 1) := by decide +kernel
theorem dX3_readOrder_140 : decode cX3_readOrder 140 = .ok (.invokevirtual 44, 3) := by decide +kernel
theorem dX3_readOrder_143 : decode cX3_readOrder 143 = .ok (.ireturn, 1) := by decide +kernel
theorem dX3_readOrder_144 : decode cX3_readOrder 144 = .ok (.iconst 0, 1) := by decide +kernel
theorem dX3_readOrder_145 : decode cX3_readOrder 145 = .ok (.ireturn, 1) := by decide +kernel
theorem dX3_skip_0 : decode cX3_skip 0 = .ok (.aload_n 0, 1) := by decide +kernel
theorem dX3_skip_1 : decode cX3_skip 1 = .ok (.invokevirtual 33, 3) := by decide +kernel
theorem dX3_skip_4 : decode cX3_skip 4 = .ok (.iload_n 1, 1) := by decide +kernel
theorem dX3_skip_5 : decode cX3_skip 5 = .ok (.if_icmp .eq 5, 3) := by decide +kernel
