theorem dX3_skip_8 : decode cX3_skip 8 = .ok (.iconst 0, 1) := by decide +kernel
theorem dX3_skip_9 : decode cX3_skip 9 = .ok (.ireturn, 1) := by decide +kernel
theorem dX3_skip_10 : decode cX3_skip 10 = .ok (.aload_n 0, 1) := by decide +kernel
theorem dX3_skip_11 : decode cX3_skip 11 = .ok (.dup, 1) := by decide +kernel
theorem dX3_skip_12 : decode cX3_skip 12 = .ok (.getfield 19, 3) := by decide +kernel
theorem dX3_skip_15 : decode cX3_skip 15 = .ok (.iconst 1, 1) := by decide +kernel
theorem dX3_skip_16 : decode cX3_skip 16 = .ok (.iadd, 1) := by decide +kernel
theorem dX3_skip_17 : decode cX3_skip 17 = .ok (.putfield 19, 3) := by decide +kernel
theorem dX3_skip_20 : decode cX3_skip 20 = .ok (.iconst 1, 1) := by decide +kernel
theorem dX3_skip_21 : decode cX3_skip 21 = .ok (.ireturn, 1) := by decide +kernel
theorem dX3_readCup_0 : decode cX3_readCup 0 = .ok (.aload_n 0, 1) := by decide +kernel
theorem dX3_readCup_1 : decode cX3_readCup 1 = .ok (.aload_n 0, 1) := by decide +kernel
theorem dX3_readCup_2 : decode cX3_readCup 2 = .ok (.invokevirtual 50, 3) := by decide +kernel
theorem dX3_readCup_5 : decode cX3_readCup 5 = .ok (.putfield 54, 3) := by decide +kernel
theorem dX3_readCup_8 : decode cX3_readCup 8 = .ok (.aload_n 0, 1) := by decide +kernel
theorem dX3_readCup_9 : decode cX3_readCup 9 = .ok (.getfield 54, 3) := by decide +kernel
theorem dX3_readCup_12 : decode cX3_readCup 12 = .ok (.ifCond .ge 5, 3) := by decide +kernel
theorem dX3_readCup_15 : decode cX3_readCup 15 = .ok (.iconst 0, 1) := by decide +kernel
theorem dX3_readCup_16 : decode cX3_readCup 16 = .ok (.ireturn, 1) := by decide +kernel
theorem dX3_readCup_17 : decode cX3_readCup 17 = .ok (.aload_n 0, 1) := by decide +kernel
theorem dX3_readCup_18 : decode cX3_readCup 18 = .ok (.dup, 1) := by decide +kernel
theorem dX3_readCup_19 : decode cX3_readCup 19 = .ok (.getfield 19, 3) := by decide +kernel
theorem dX3_readCup_22 : decode cX3_readCup 22 = .ok (.iconst 1, 1) := by decide +kernel
theorem dX3_readCup_23 : decode cX3_readCup 23 = .ok (.iadd, 1) := by decide +kernel
theorem dX3_readCup_24 : decode cX3_readCup 24 = .ok (.putfield 19, 3) := by decide +kernel
theorem dX3_readCup_27 : decode cX3_readCup 27 = .ok (.iconst 1, 1) := by decide +kernel
theorem dX3_readCup_28 : decode cX3_readCup 28 = .ok (.ireturn, 1) := by decide +kernel
theorem dX3_readNumber_0 : decode cX3_readNumber 0 = .ok (.aload_n 0, 1) := by decide +kernel
theorem dX3_readNumber_1 : decode cX3_readNumber 1 = .ok (.aload_n 0, 1) := by decide +kernel
theorem dX3_readNumber_2 : decode cX3_readNumber 2 = .ok (.invokevirtual 57, 3) := by decide +kernel
theorem dX3_readNumber_5 : decode cX3_readNumber 5 = .ok (.putfield 60, 3) := by decide +kernel
theorem dX3_readNumber_8 : decode cX3_readNumber 8 = .ok (.aload_n 0, 1) := by decide +kernel
theorem dX3_readNumber_9 : decode cX3_readNumber 9 = .ok (.getfield 60, 3) := by decide +kernel
theorem dX3_readNumber_12 : decode cX3_readNumber 12 = .ok (.ifCond .lt 7, 3) := by decide +kernel
theorem dX3_readNumber_15 : decode cX3_readNumber 15 = .ok (.iconst 1, 1) := by decide +kernel
theorem dX3_readNumber_16 : decode cX3_readNumber 16 = .ok (.goto 4, 3) := by decide +kernel
theorem dX3_readNumber_19 : decode cX3_readNumber 19 = .ok (.iconst 0, 1) := by decide +kernel
theorem dX3_readNumber_20 : decode cX3_readNumber 20 = .ok (.ireturn, 1) := by decide +kernel
theorem dX3_readMany_0 : decode cX3_readMany 0 = .ok (.aload_n 0, 1) := by decide +kernel
theorem dX3_readMany_1 : decode cX3_readMany 1 = .ok (.aload_n 0, 1) := by decide +kernel
theorem dX3_readMany_2 : decode cX3_readMany 2 = .ok (.bipush 42, 2) := by decide +kernel
theorem dX3_readMany_4 : decode cX3_readMany 4 = .ok (.invokevirtual 29, 3) := by decide +kernel
theorem dX3_readMany_7 : decode cX3_readMany 7 = .ok (.ifCond .eq 10, 3) := by decide +kernel
theorem dX3_readMany_10 : decode cX3_readMany 10 = .ok (.aload_n 0, 1) := by decide +kernel
theorem dX3_readMany_11 : decode cX3_readMany 11 = .ok (.invokevirtual 57, 3) := by decide +kernel
theorem dX3_readMany_14 : decode cX3_readMany 14 = .ok (.goto 4, 3) := by decide +kernel
theorem dX3_readMany_17 : decode cX3_readMany 17 = .ok (.iconst 1, 1) := by decide +kernel
theorem dX3_readMany_18 : decode cX3_readMany 18 = .ok (.putfield 63, 3) := by decide +kernel
theorem dX3_readMany_21 : decode cX3_readMany 21 = .ok (.aload_n 0, 1) := by decide +kernel
theorem dX3_readMany_22 : decode cX3_readMany 22 = .ok (.getfield 63, 3) := by decide +kernel
theorem dX3_readMany_25 : decode cX3_readMany 25 = .ok (.ifCond .lt 7, 3) := by decide +kernel
theorem dX3_readMany_28 : decode cX3_readMany 28 = .ok (.iconst 1, 1) := by decide +kernel
theorem dX3_readMany_29 : decode cX3_readMany 29 = .ok (.goto 4, 3) := by decide +kernel
theorem dX3_readMany_32 : decode cX3_readMany 32 = .ok (.iconst 0, 1) := by decide +kernel
theorem dX3_readMany_33 : decode cX3_readMany 33 = .ok (.ireturn, 1) := by decide +kernel
theorem dX3_takeNumber_0 : decode cX3_takeNumber 0 = .ok (.bipush (-6), 2) := by decide +kernel
theorem dX3_takeNumber_2 : decode cX3_takeNumber 2 = .ok (.istore_n 1, 1) := by decide +kernel
theorem dX3_takeNumber_3 : decode cX3_takeNumber 3 = .ok (.iconst 0, 1) := by decide +kernel
theorem dX3_takeNumber_4 : decode cX3_takeNumber 4 = .ok (.istore_n 2, 1) := by decide +kernel
theorem dX3_takeNumber_5 : decode cX3_takeNumber 5 = .ok (.iload_n 2, 1) := by decide +kernel
theorem dX3_takeNumber_6 : decode cX3_takeNumber 6 = .ok (.bipush 80, 2) := by decide +kernel
theorem dX3_takeNumber_8 : decode cX3_takeNumber 8 = .ok (.if_icmp .ge 57, 3) := by decide +kernel
theorem dX3_takeNumber_11 : decode cX3_takeNumber 11 = .ok (.iload_n 1, 1) := by decide +kernel
theorem dX3_takeNumber_12 : decode cX3_takeNumber 12 = .ok (.ifCond .eq 53, 3) := by decide +kernel
theorem dX3_takeNumber_15 : decode cX3_takeNumber 15 = .ok (.aload_n 0, 1) := by decide +kernel
theorem dX3_takeNumber_16 : decode cX3_takeNumber 16 = .ok (.invokevirtual 50, 3) := by decide +kernel
theorem dX3_takeNumber_19 : decode cX3_takeNumber 19 = .ok (.istore_n 3, 1) := by decide +kernel
theorem dX3_takeNumber_20 : decode cX3_takeNumber 20 = .ok (.iload_n 1, 1) := by decide +kernel
theorem dX3_takeNumber_21 : decode cX3_takeNumber 21 = .ok (.iconst 0, 1) := by decide +kernel
theorem dX3_takeNumber_22 : decode cX3_takeNumber 22 = .ok (.invokestatic 66, 3) := by decide +kernel
theorem dX3_takeNumber_25 : decode cX3_takeNumber 25 = .ok (.bipush 10, 2) := by decide +kernel
theorem dX3_takeNumber_27 : decode cX3_takeNumber 27 = .ok (.imul, 1) := by decide +kernel
theorem dX3_takeNumber_28 : decode cX3_takeNumber 28 = .ok (.iload_n 3, 1) := by decide +kernel
theorem dX3_takeNumber_29 : decode cX3_takeNumber 29 = .ok (.iadd, 1) := by decide +kernel
theorem dX3_takeNumber_30 : decode cX3_takeNumber 30 = .ok (.istore 4, 2) := by decide +kernel
theorem dX3_takeNumber_32 : decode cX3_takeNumber 32 = .ok (.iload_n 3, 1) := by decide +kernel
theorem dX3_takeNumber_33 : decode cX3_takeNumber 33 = .ok (.ifCond .lt 32, 3) := by decide +kernel
theorem dX3_takeNumber_36 : decode cX3_takeNumber 36 = .ok (.iload 4, 2) := by decide +kernel
theorem dX3_takeNumber_38 : decode cX3_takeNumber 38 = .ok (.ldc 72, 2) := by decide +kernel
theorem dX3_takeNumber_40 : decode cX3_takeNumber 40 = .ok (.if_icmp .le 6, 3) := by decide +kernel
theorem dX3_takeNumber_43 : decode cX3_takeNumber 43 = .ok (.goto 22, 3) := by decide +kernel
theorem dX3_takeNumber_46 : decode cX3_takeNumber 46 = .ok (.iload 4, 2) := by decide +kernel
theorem dX3_takeNumber_48 : decode cX3_takeNumber 48 = .ok (.istore_n 1, 1) := by decide +kernel
theorem dX3_takeNumber_49 : decode cX3_takeNumber 49 = .ok (.aload_n 0, 1) := by decide +kernel
theorem dX3_takeNumber_50 : decode cX3_takeNumber 50 = .ok (.dup, 1) := by decide +kernel
theorem dX3_takeNumber_51 : decode cX3_takeNumber 51 = .ok (.getfield 19, 3) := by decide +kernel
theorem dX3_takeNumber_54 : decode cX3_takeNumber 54 = .ok (.iconst 1, 1) := by decide +kernel
theorem dX3_takeNumber_55 : decode cX3_takeNumber 55 = .ok (.iadd, 1) := by decide +kernel
theorem dX3_takeNumber_56 : decode cX3_takeNumber 56 = .ok (.putfield 19, 3) := by decide +kernel
theorem dX3_takeNumber_59 : decode cX3_takeNumber 59 = .ok (.iinc 2 1, 3) := by decide +kernel
theorem dX3_takeNumber_62 : decode cX3_takeNumber 62 = .ok (.goto (-57), 3) := by decide +kernel
theorem dX3_takeNumber_65 : decode cX3_takeNumber 65 = .ok (.iload_n 1, 1) := by decide +kernel
theorem dX3_takeNumber_66 : decode cX3_takeNumber 66 = .ok (.ireturn, 1) := by decide +kernel
theorem dX3_digitHere_0 : decode cX3_digitHere 0 = .ok (.aload_n 0, 1) := by decide +kernel
theorem dX3_digitHere_1 : decode cX3_digitHere 1 = .ok (.invokevirtual 33, 3) := by decide +kernel
theorem dX3_digitHere_4 : decode cX3_digitHere 4 = .ok (.istore_n 1, 1) := by decide +kernel
theorem dX3_digitHere_5 : decode cX3_digitHere 5 = .ok (.iload_n 1, 1) := by decide +kernel
theorem dX3_digitHere_6 : decode cX3_digitHere 6 = .ok (.bipush 48, 2) := by decide +kernel
theorem dX3_digitHere_8 : decode cX3_digitHere 8 = .ok (.if_icmp .lt 16, 3) := by decide +kernel
theorem dX3_digitHere_11 : decode cX3_digitHere 11 = .ok (.iload_n 1, 1) := by decide +kernel
theorem dX3_digitHere_12 : decode cX3_digitHere 12 = .ok (.bipush 57, 2) := by decide +kernel
theorem dX3_digitHere_14 : decode cX3_digitHere 14 = .ok (.if_icmp .gt 10, 3) := by decide +kernel
theorem dX3_digitHere_17 : decode cX3_digitHere 17 = .ok (.iload_n 1, 1) := by decide +kernel
theorem dX3_digitHere_18 : decode cX3_digitHere 18 = .ok (.bipush 48, 2) := by decide +kernel
theorem dX3_digitHere_20 : decode cX3_digitHere 20 = .ok (.isub, 1) := by decide +kernel
theorem dX3_digitHere_21 : decode cX3_digitHere 21 = .ok (.goto 5, 3) := by decide +kernel
theorem dX3_digitHere_24 : decode cX3_digitHere 24 = .ok (.bipush (-6), 2) := by decide +kernel
theorem dX3_digitHere_26 : decode cX3_digitHere 26 = .ok (.ireturn, 1) := by decide +kernel
theorem dX3_signHere_0 : decode cX3_signHere 0 = .ok (.aload_n 0, 1) := by decide +kernel
theorem dX3_signHere_1 : decode cX3_signHere 1 = .ok (.getfield 19, 3) := by decide +kernel
theorem dX3_signHere_4 : decode cX3_signHere 4 = .ok (.ifCond .lt 35, 3) := by decide +kernel
theorem dX3_signHere_7 : decode cX3_signHere 7 = .ok (.aload_n 0, 1) := by decide +kernel
theorem dX3_signHere_8 : decode cX3_signHere 8 = .ok (.getfield 19, 3) := by decide +kernel
theorem dX3_signHere_11 : decode cX3_signHere 11 = .ok (.aload_n 0, 1) := by decide +kernel
theorem dX3_signHere_12 : decode cX3_signHere 12 = .ok (.getfield 15, 3) := by decide +kernel
theorem dX3_signHere_15 : decode cX3_signHere 15 = .ok (.if_icmp .ge 24, 3) := by decide +kernel
theorem dX3_signHere_18 : decode cX3_signHere 18 = .ok (.aload_n 0, 1) := by decide +kernel
theorem dX3_signHere_19 : decode cX3_signHere 19 = .ok (.getfield 19, 3) := by decide +kernel
theorem dX3_signHere_22 : decode cX3_signHere 22 = .ok (.bipush 80, 2) := by decide +kernel
theorem dX3_signHere_24 : decode cX3_signHere 24 = .ok (.if_icmp .ge 15, 3) := by decide +kernel
theorem dX3_signHere_27 : decode cX3_signHere 27 = .ok (.aload_n 0, 1) := by decide +kernel
theorem dX3_signHere_28 : decode cX3_signHere 28 = .ok (.getfield 9, 3) := by decide +kernel
theorem dX3_signHere_31 : decode cX3_signHere 31 = .ok (.aload_n 0, 1) := by decide +kernel
theorem dX3_signHere_32 : decode cX3_signHere 32 = .ok (.getfield 19, 3) := by decide +kernel
theorem dX3_signHere_35 : decode cX3_signHere 35 = .ok (.caload, 1) := by decide +kernel
theorem dX3_signHere_36 : decode cX3_signHere 36 = .ok (.goto 4, 3) := by decide +kernel
theorem dX3_signHere_39 : decode cX3_signHere 39 = .ok (.iconst 0, 1) := by decide +kernel
theorem dX3_signHere_40 : decode cX3_signHere 40 = .ok (.ireturn, 1) := by decide +kernel
theorem dX4_init_0 : decode cX4_init 0 = .ok (.aload_n 0, 1) := by decide +kernel
theorem dX4_init_1 : decode cX4_init 1 = .ok (.invokespecial 3, 3) := by decide +kernel
theorem dX4_init_4 : decode cX4_init 4 = .ok (.aload_n 0, 1) := by decide +kernel
theorem dX4_init_5 : decode cX4_init 5 = .ok (.bipush 24, 2) := by decide +kernel
theorem dX4_init_7 : decode cX4_init 7 = .ok (.newarray .int, 2) := by decide +kernel
theorem dX4_init_9 : decode cX4_init 9 = .ok (.putfield 9, 3) := by decide +kernel
theorem dX4_init_12 : decode cX4_init 12 = .ok (.aload_n 0, 1) := by decide +kernel
theorem dX4_init_13 : decode cX4_init 13 = .ok (.bipush 24, 2) := by decide +kernel
theorem dX4_init_15 : decode cX4_init 15 = .ok (.newarray .int, 2) := by decide +kernel
theorem dX4_init_17 : decode cX4_init 17 = .ok (.putfield 15, 3) := by decide +kernel
theorem dX4_init_20 : decode cX4_init 20 = .ok (.return_, 1) := by decide +kernel
theorem dX4_reduce_0 : decode cX4_reduce 0 = .ok (.aload_n 1, 1) := by decide +kernel
theorem dX4_reduce_1 : decode cX4_reduce 1 = .ok (.getfield 18, 3) := by decide +kernel
theorem dX4_reduce_4 : decode cX4_reduce 4 = .ok (.iconst 0, 1) := by decide +kernel
theorem dX4_reduce_5 : decode cX4_reduce 5 = .ok (.aload_n 0, 1) := by decide +kernel
theorem dX4_reduce_6 : decode cX4_reduce 6 = .ok (.getfield 9, 3) := by decide +kernel
theorem dX4_reduce_9 : decode cX4_reduce 9 = .ok (.iconst 0, 1) := by decide +kernel
theorem dX4_reduce_10 : decode cX4_reduce 10 = .ok (.bipush 24, 2) := by decide +kernel
theorem dX4_reduce_12 : decode cX4_reduce 12 = .ok (.invokestatic 21, 3) := by decide +kernel
theorem dX4_reduce_15 : decode cX4_reduce 15 = .ok (.aload_n 1, 1) := by decide +kernel
theorem dX4_reduce_16 : decode cX4_reduce 16 = .ok (.getfield 27, 3) := by decide +kernel
theorem dX4_reduce_19 : decode cX4_reduce 19 = .ok (.iconst 0, 1) := by decide +kernel
theorem dX4_reduce_20 : decode cX4_reduce 20 = .ok (.aload_n 0, 1) := by decide +kernel
theorem dX4_reduce_21 : decode cX4_reduce 21 = .ok (.getfield 15, 3) := by decide +kernel
theorem dX4_reduce_24 : decode cX4_reduce 24 = .ok (.iconst 0, 1) := by decide +kernel
theorem dX4_reduce_25 : decode cX4_reduce 25 = .ok (.bipush 24, 2) := by decide +kernel
theorem dX4_reduce_27 : decode cX4_reduce 27 = .ok (.invokestatic 21, 3) := by decide +kernel
theorem dX4_reduce_30 : decode cX4_reduce 30 = .ok (.iconst 0, 1) := by decide +kernel
theorem dX4_reduce_31 : decode cX4_reduce 31 = .ok (.istore_n 2, 1) := by decide +kernel
theorem dX4_reduce_32 : decode cX4_reduce 32 = .ok (.iload_n 2, 1) := by decide +kernel
theorem dX4_reduce_33 : decode cX4_reduce 33 = .ok (.bipush 24, 2) := by decide +kernel
theorem dX4_reduce_35 : decode cX4_reduce 35 = .ok (.if_icmp .ge 90, 3) := by decide +kernel
theorem dX4_reduce_38 : decode cX4_reduce 38 = .ok (.aload_n 0, 1) := by decide +kernel
theorem dX4_reduce_39 : decode cX4_reduce 39 = .ok (.getfield 9, 3) := by decide +kernel
theorem dX4_reduce_42 : decode cX4_reduce 42 = .ok (.iload_n 2, 1) := by decide +kernel
theorem dX4_reduce_43 : decode cX4_reduce 43 = .ok (.iaload, 1) := by decide +kernel
theorem dX4_reduce_44 : decode cX4_reduce 44 = .ok (.aload_n 0, 1) := by decide +kernel
theorem dX4_reduce_45 : decode cX4_reduce 45 = .ok (.getfield 9, 3) := by decide +kernel
theorem dX4_reduce_48 : decode cX4_reduce 48 = .ok (.iload_n 2, 1) := by decide +kernel
theorem dX4_reduce_49 : decode cX4_reduce 49 = .ok (.iaload, 1) := by decide +kernel
theorem dX4_reduce_50 : decode cX4_reduce 50 = .ok (.ineg, 1) := by decide +kernel
theorem dX4_reduce_51 : decode cX4_reduce 51 = .ok (.iand, 1) := by decide +kernel
theorem dX4_reduce_52 : decode cX4_reduce 52 = .ok (.istore_n 3, 1) := by decide +kernel
theorem dX4_reduce_53 : decode cX4_reduce 53 = .ok (.iconst 0, 1) := by decide +kernel
theorem dX4_reduce_54 : decode cX4_reduce 54 = .ok (.istore 4, 2) := by decide +kernel
theorem dX4_reduce_56 : decode cX4_reduce 56 = .ok (.iload 4, 2) := by decide +kernel
theorem dX4_reduce_58 : decode cX4_reduce 58 = .ok (.bipush 24, 2) := by decide +kernel
theorem dX4_reduce_60 : decode cX4_reduce 60 = .ok (.if_icmp .ge 59, 3) := by decide +kernel
theorem dX4_reduce_63 : decode cX4_reduce 63 = .ok (.iload 4, 2) := by decide +kernel
theorem dX4_reduce_65 : decode cX4_reduce 65 = .ok (.iload_n 2, 1) := by decide +kernel
theorem dX4_reduce_66 : decode cX4_reduce 66 = .ok (.if_icmp .eq 47, 3) := by decide +kernel
theorem dX4_reduce_69 : decode cX4_reduce 69 = .ok (.aload_n 0, 1) := by decide +kernel
theorem dX4_reduce_70 : decode cX4_reduce 70 = .ok (.getfield 9, 3) := by decide +kernel
theorem dX4_reduce_73 : decode cX4_reduce 73 = .ok (.iload 4, 2) := by decide +kernel
theorem dX4_reduce_75 : decode cX4_reduce 75 = .ok (.iaload, 1) := by decide +kernel
theorem dX4_reduce_76 : decode cX4_reduce 76 = .ok (.iload_n 3, 1) := by decide +kernel
theorem dX4_reduce_77 : decode cX4_reduce 77 = .ok (.iand, 1) := by decide +kernel
theorem dX4_reduce_78 : decode cX4_reduce 78 = .ok (.ifCond .eq 35, 3) := by decide +kernel
theorem dX4_reduce_81 : decode cX4_reduce 81 = .ok (.aload_n 0, 1) := by decide +kernel
theorem dX4_reduce_82 : decode cX4_reduce 82 = .ok (.getfield 9, 3) := by decide +kernel
theorem dX4_reduce_85 : decode cX4_reduce 85 = .ok (.iload 4, 2) := by decide +kernel
theorem dX4_reduce_87 : decode cX4_reduce 87 = .ok (.dup2, 1) := by decide +kernel
theorem dX4_reduce_88 : decode cX4_reduce 88 = .ok (.iaload, 1) := by decide +kernel
theorem dX4_reduce_89 : decode cX4_reduce 89 = .ok (.aload_n 0, 1) := by decide +kernel
theorem dX4_reduce_90 : decode cX4_reduce 90 = .ok (.getfield 9, 3) := by decide +kernel
theorem dX4_reduce_93 : decode cX4_reduce 93 = .ok (.iload_n 2, 1) := by decide +kernel
theorem dX4_reduce_94 : decode cX4_reduce 94 = .ok (.iaload, 1) := by decide +kernel
theorem dX4_reduce_95 : decode cX4_reduce 95 = .ok (.ixor, 1) := by decide +kernel
theorem dX4_reduce_96 : decode cX4_reduce 96 = .ok (.iastore, 1) := by decide +kernel
theorem dX4_reduce_97 : decode cX4_reduce 97 = .ok (.aload_n 0, 1) := by decide +kernel
theorem dX4_reduce_98 : decode cX4_reduce 98 = .ok (.getfield 15, 3) := by decide +kernel
theorem dX4_reduce_101 : decode cX4_reduce 101 = .ok (.iload 4, 2) := by decide +kernel
theorem dX4_reduce_103 : decode cX4_reduce 103 = .ok (.dup2, 1) := by decide +kernel
theorem dX4_reduce_104 : decode cX4_reduce 104 = .ok (.iaload, 1) := by decide +kernel
theorem dX4_reduce_105 : decode cX4_reduce 105 = .ok (.aload_n 0, 1) := by decide +kernel
theorem dX4_reduce_106 : decode cX4_reduce 106 = .ok (.getfield 15, 3) := by decide +kernel
theorem dX4_reduce_109 : decode cX4_reduce 109 = .ok (.iload_n 2, 1) := by decide +kernel
theorem dX4_reduce_110 : decode cX4_reduce 110 = .ok (.iaload, 1) := by decide +kernel
theorem dX4_reduce_111 : decode cX4_reduce 111 = .ok (.ixor, 1) := by decide +kernel
theorem dX4_reduce_112 : decode cX4_reduce 112 = .ok (.iastore, 1) := by decide +kernel
theorem dX4_reduce_113 : decode cX4_reduce 113 = .ok (.iinc 4 1, 3) := by decide +kernel
theorem dX4_reduce_116 : decode cX4_reduce 116 = .ok (.goto (-60), 3) := by decide +kernel
theorem dX4_reduce_119 : decode cX4_reduce 119 = .ok (.iinc 2 1, 3) := by decide +kernel
theorem dX4_reduce_122 : decode cX4_reduce 122 = .ok (.goto (-90), 3) := by decide +kernel
theorem dX4_reduce_125 : decode cX4_reduce 125 = .ok (.return_, 1) := by decide +kernel
theorem dX4_isSingle_0 : decode cX4_isSingle 0 = .ok (.iload_n 1, 1) := by decide +kernel
theorem dX4_isSingle_1 : decode cX4_isSingle 1 = .ok (.ifCond .lt 26, 3) := by decide +kernel
theorem dX4_isSingle_4 : decode cX4_isSingle 4 = .ok (.iload_n 1, 1) := by decide +kernel
theorem dX4_isSingle_5 : decode cX4_isSingle 5 = .ok (.bipush 24, 2) := by decide +kernel
theorem dX4_isSingle_7 : decode cX4_isSingle 7 = .ok (.if_icmp .ge 20, 3) := by decide +kernel
theorem dX4_isSingle_10 : decode cX4_isSingle 10 = .ok (.aload_n 0, 1) := by decide +kernel
theorem dX4_isSingle_11 : decode cX4_isSingle 11 = .ok (.getfield 9, 3) := by decide +kernel
theorem dX4_isSingle_14 : decode cX4_isSingle 14 = .ok (.iload_n 1, 1) := by decide +kernel
theorem dX4_isSingle_15 : decode cX4_isSingle 15 = .ok (.iaload, 1) := by decide +kernel
theorem dX4_isSingle_16 : decode cX4_isSingle 16 = .ok (.invokestatic 28, 3) := by decide +kernel
theorem dX4_isSingle_19 : decode cX4_isSingle 19 = .ok (.iconst 1, 1) := by decide +kernel
theorem dX4_isSingle_20 : decode cX4_isSingle 20 = .ok (.if_icmp .ne 7, 3) := by decide +kernel
theorem dX4_isSingle_23 : decode cX4_isSingle 23 = .ok (.iconst 1, 1) := by decide +kernel
theorem dX4_isSingle_24 : decode cX4_isSingle 24 = .ok (.goto 4, 3) := by decide +kernel
theorem dX4_isSingle_27 : decode cX4_isSingle 27 = .ok (.iconst 0, 1) := by decide +kernel
theorem dX4_isSingle_28 : decode cX4_isSingle 28 = .ok (.ireturn, 1) := by decide +kernel
theorem dX4_singleCount_0 : decode cX4_singleCount 0 = .ok (.iconst 0, 1) := by decide +kernel
theorem dX4_singleCount_1 : decode cX4_singleCount 1 = .ok (.istore_n 1, 1) := by decide +kernel
theorem dX4_singleCount_2 : decode cX4_singleCount 2 = .ok (.iconst 0, 1) := by decide +kernel
theorem dX4_singleCount_3 : decode cX4_singleCount 3 = .ok (.istore_n 2, 1) := by decide +kernel
theorem dX4_singleCount_4 : decode cX4_singleCount 4 = .ok (.iload_n 2, 1) := by decide +kernel
theorem dX4_singleCount_5 : decode cX4_singleCount 5 = .ok (.bipush 24, 2) := by decide +kernel
theorem dX4_singleCount_7 : decode cX4_singleCount 7 = .ok (.if_icmp .ge 20, 3) := by decide +kernel
theorem dX4_singleCount_10 : decode cX4_singleCount 10 = .ok (.aload_n 0, 1) := by decide +kernel
theorem dX4_singleCount_11 : decode cX4_singleCount 11 = .ok (.iload_n 2, 1) := by decide +kernel
theorem dX4_singleCount_12 : decode cX4_singleCount 12 = .ok (.invokevirtual 34, 3) := by decide +kernel
theorem dX4_singleCount_15 : decode cX4_singleCount 15 = .ok (.ifCond .eq 6, 3) := by decide +kernel
theorem dX4_singleCount_18 : decode cX4_singleCount 18 = .ok (.iinc 1 1, 3) := by decide +kernel
theorem dX4_singleCount_21 : decode cX4_singleCount 21 = .ok (.iinc 2 1, 3) := by decide +kernel
theorem dX4_singleCount_24 : decode cX4_singleCount 24 = .ok (.goto (-20), 3) := by decide +kernel
theorem dX4_singleCount_27 : decode cX4_singleCount 27 = .ok (.iload_n 1, 1) := by decide +kernel
theorem dX4_singleCount_28 : decode cX4_singleCount 28 = .ok (.ireturn, 1) := by decide +kernel
theorem dX5_init_0 : decode cX5_init 0 = .ok (.aload_n 0, 1) := by decide +kernel
theorem dX5_init_1 : decode cX5_init 1 = .ok (.invokespecial 3, 3) := by decide +kernel
theorem dX5_init_4 : decode cX5_init 4 = .ok (.aload_n 0, 1) := by decide +kernel
theorem dX5_init_5 : decode cX5_init 5 = .ok (.iconst 1, 1) := by decide +kernel
theorem dX5_init_6 : decode cX5_init 6 = .ok (.putfield 9, 3) := by decide +kernel
theorem dX5_init_9 : decode cX5_init 9 = .ok (.aload_n 0, 1) := by decide +kernel
theorem dX5_init_10 : decode cX5_init 10 = .ok (.bipush 16, 2) := by decide +kernel
theorem dX5_init_12 : decode cX5_init 12 = .ok (.newarray .int, 2) := by decide +kernel
theorem dX5_init_14 : decode cX5_init 14 = .ok (.putfield 15, 3) := by decide +kernel
theorem dX5_init_17 : decode cX5_init 17 = .ok (.aload_n 0, 1) := by decide +kernel
theorem dX5_init_18 : decode cX5_init 18 = .ok (.iconst 3, 1) := by decide +kernel
theorem dX5_init_19 : decode cX5_init 19 = .ok (.anewarray 19, 3) := by decide +kernel
theorem dX5_init_22 : decode cX5_init 22 = .ok (.putfield 21, 3) := by decide +kernel
theorem dX5_init_25 : decode cX5_init 25 = .ok (.iconst 0, 1) := by decide +kernel
theorem dX5_init_26 : decode cX5_init 26 = .ok (.istore_n 1, 1) := by decide +kernel
theorem dX5_init_27 : decode cX5_init 27 = .ok (.iload_n 1, 1) := by decide +kernel
theorem dX5_init_28 : decode cX5_init 28 = .ok (.iconst 3, 1) := by decide +kernel
theorem dX5_init_29 : decode cX5_init 29 = .ok (.if_icmp .ge 22, 3) := by decide +kernel
theorem dX5_init_32 : decode cX5_init 32 = .ok (.aload_n 0, 1) := by decide +kernel
theorem dX5_init_33 : decode cX5_init 33 = .ok (.getfield 21, 3) := by decide +kernel
theorem dX5_init_36 : decode cX5_init 36 = .ok (.iload_n 1, 1) := by decide +kernel
theorem dX5_init_37 : decode cX5_init 37 = .ok (.new 19, 3) := by decide +kernel
theorem dX5_init_40 : decode cX5_init 40 = .ok (.dup, 1) := by decide +kernel
theorem dX5_init_41 : decode cX5_init 41 = .ok (.invokespecial 25, 3) := by decide +kernel
theorem dX5_init_44 : decode cX5_init 44 = .ok (.aastore, 1) := by decide +kernel
theorem dX5_init_45 : decode cX5_init 45 = .ok (.iinc 1 1, 3) := by decide +kernel
theorem dX5_init_48 : decode cX5_init 48 = .ok (.goto (-21), 3) := by decide +kernel
theorem dX5_init_51 : decode cX5_init 51 = .ok (.return_, 1) := by decide +kernel
theorem dX5_cupAt_0 : decode cX5_cupAt 0 = .ok (.iload_n 1, 1) := by decide +kernel
theorem dX5_cupAt_1 : decode cX5_cupAt 1 = .ok (.ifCond .lt 25, 3) := by decide +kernel
theorem dX5_cupAt_4 : decode cX5_cupAt 4 = .ok (.iload_n 1, 1) := by decide +kernel
theorem dX5_cupAt_5 : decode cX5_cupAt 5 = .ok (.aload_n 0, 1) := by decide +kernel
theorem dX5_cupAt_6 : decode cX5_cupAt 6 = .ok (.getfield 26, 3) := by decide +kernel
theorem dX5_cupAt_9 : decode cX5_cupAt 9 = .ok (.if_icmp .ge 17, 3) := by decide +kernel
theorem dX5_cupAt_12 : decode cX5_cupAt 12 = .ok (.iload_n 1, 1) := by decide +kernel
theorem dX5_cupAt_13 : decode cX5_cupAt 13 = .ok (.iconst 3, 1) := by decide +kernel
theorem dX5_cupAt_14 : decode cX5_cupAt 14 = .ok (.if_icmp .ge 12, 3) := by decide +kernel
theorem dX5_cupAt_17 : decode cX5_cupAt 17 = .ok (.aload_n 0, 1) := by decide +kernel
theorem dX5_cupAt_18 : decode cX5_cupAt 18 = .ok (.getfield 21, 3) := by decide +kernel
theorem dX5_cupAt_21 : decode cX5_cupAt 21 = .ok (.iload_n 1, 1) := by decide +kernel
theorem dX5_cupAt_22 : decode cX5_cupAt 22 = .ok (.aaload, 1) := by decide +kernel
theorem dX5_cupAt_23 : decode cX5_cupAt 23 = .ok (.goto 4, 3) := by decide +kernel
theorem dX5_cupAt_26 : decode cX5_cupAt 26 = .ok (.aconst_null, 1) := by decide +kernel
theorem dX5_cupAt_27 : decode cX5_cupAt 27 = .ok (.areturn, 1) := by decide +kernel
theorem dX5_allChapters_0 : decode cX5_allChapters 0 = .ok (.iconst 1, 1) := by decide +kernel
theorem dX5_allChapters_1 : decode cX5_allChapters 1 = .ok (.aload_n 0, 1) := by decide +kernel
theorem dX5_allChapters_2 : decode cX5_allChapters 2 = .ok (.getfield 29, 3) := by decide +kernel
theorem dX5_allChapters_5 : decode cX5_allChapters 5 = .ok (.ishl, 1) := by decide +kernel
theorem dX5_allChapters_6 : decode cX5_allChapters 6 = .ok (.iconst 1, 1) := by decide +kernel
theorem dX5_allChapters_7 : decode cX5_allChapters 7 = .ok (.isub, 1) := by decide +kernel
theorem dX5_allChapters_8 : decode cX5_allChapters 8 = .ok (.ireturn, 1) := by decide +kernel
theorem dX5_copyFrom_0 : decode cX5_copyFrom 0 = .ok (.aload_n 0, 1) := by decide +kernel
theorem dX5_copyFrom_1 : decode cX5_copyFrom 1 = .ok (.aload_n 1, 1) := by decide +kernel
theorem dX5_copyFrom_2 : decode cX5_copyFrom 2 = .ok (.getfield 9, 3) := by decide +kernel
theorem dX5_copyFrom_5 : decode cX5_copyFrom 5 = .ok (.putfield 9, 3) := by decide +kernel
theorem dX5_copyFrom_8 : decode cX5_copyFrom 8 = .ok (.aload_n 0, 1) := by decide +kernel
theorem dX5_copyFrom_9 : decode cX5_copyFrom 9 = .ok (.aload_n 1, 1) := by decide +kernel
theorem dX5_copyFrom_10 : decode cX5_copyFrom 10 = .ok (.getfield 32, 3) := by decide +kernel
theorem dX5_copyFrom_13 : decode cX5_copyFrom 13 = .ok (.putfield 32, 3) := by decide +kernel
theorem dX5_copyFrom_16 : decode cX5_copyFrom 16 = .ok (.aload_n 0, 1) := by decide +kernel
theorem dX5_copyFrom_17 : decode cX5_copyFrom 17 = .ok (.aload_n 1, 1) := by decide +kernel
theorem dX5_copyFrom_18 : decode cX5_copyFrom 18 = .ok (.getfield 29, 3) := by decide +kernel
theorem dX5_copyFrom_21 : decode cX5_copyFrom 21 = .ok (.putfield 29, 3) := by decide +kernel
theorem dX5_copyFrom_24 : decode cX5_copyFrom 24 = .ok (.aload_n 0, 1) := by decide +kernel
theorem dX5_copyFrom_25 : decode cX5_copyFrom 25 = .ok (.aload_n 1, 1) := by decide +kernel
theorem dX5_copyFrom_26 : decode cX5_copyFrom 26 = .ok (.getfield 26, 3) := by decide +kernel
theorem dX5_copyFrom_29 : decode cX5_copyFrom 29 = .ok (.putfield 26, 3) := by decide +kernel
theorem dX5_copyFrom_32 : decode cX5_copyFrom 32 = .ok (.aload_n 0, 1) := by decide +kernel
theorem dX5_copyFrom_33 : decode cX5_copyFrom 33 = .ok (.aload_n 1, 1) := by decide +kernel
theorem dX5_copyFrom_34 : decode cX5_copyFrom 34 = .ok (.getfield 35, 3) := by decide +kernel
theorem dX5_copyFrom_37 : decode cX5_copyFrom 37 = .ok (.putfield 35, 3) := by decide +kernel
theorem dX5_copyFrom_40 : decode cX5_copyFrom 40 = .ok (.aload_n 1, 1) := by decide +kernel
theorem dX5_copyFrom_41 : decode cX5_copyFrom 41 = .ok (.getfield 15, 3) := by decide +kernel
theorem dX5_copyFrom_44 : decode cX5_copyFrom 44 = .ok (.iconst 0, 1) := by decide +kernel
theorem dX5_copyFrom_45 : decode cX5_copyFrom 45 = .ok (.aload_n 0, 1) := by decide +kernel
theorem dX5_copyFrom_46 : decode cX5_copyFrom 46 = .ok (.getfield 15, 3) := by decide +kernel
theorem dX5_copyFrom_49 : decode cX5_copyFrom 49 = .ok (.iconst 0, 1) := by decide +kernel
theorem dX5_copyFrom_50 : decode cX5_copyFrom 50 = .ok (.bipush 16, 2) := by decide +kernel
theorem dX5_copyFrom_52 : decode cX5_copyFrom 52 = .ok (.invokestatic 38, 3) := by decide +kernel
theorem dX5_copyFrom_55 : decode cX5_copyFrom 55 = .ok (.iconst 0, 1) := by decide +kernel
theorem dX5_copyFrom_56 : decode cX5_copyFrom 56 = .ok (.istore_n 2, 1) := by decide +kernel
theorem dX5_copyFrom_57 : decode cX5_copyFrom 57 = .ok (.iload_n 2, 1) := by decide +kernel
theorem dX5_copyFrom_58 : decode cX5_copyFrom 58 = .ok (.iconst 3, 1) := by decide +kernel
theorem dX5_copyFrom_59 : decode cX5_copyFrom 59 = .ok (.if_icmp .ge 39, 3) := by decide +kernel
theorem dX5_copyFrom_62 : decode cX5_copyFrom 62 = .ok (.aload_n 0, 1) := by decide +kernel
theorem dX5_copyFrom_63 : decode cX5_copyFrom 63 = .ok (.getfield 21, 3) := by decide +kernel
theorem dX5_copyFrom_66 : decode cX5_copyFrom 66 = .ok (.iload_n 2, 1) := by decide +kernel
theorem dX5_copyFrom_67 : decode cX5_copyFrom 67 = .ok (.aaload, 1) := by decide +kernel
theorem dX5_copyFrom_68 : decode cX5_copyFrom 68 = .ok (.astore_n 3, 1) := by decide +kernel
theorem dX5_copyFrom_69 : decode cX5_copyFrom 69 = .ok (.aload_n 1, 1) := by decide +kernel
theorem dX5_copyFrom_70 : decode cX5_copyFrom 70 = .ok (.getfield 21, 3) := by decide +kernel
theorem dX5_copyFrom_73 : decode cX5_copyFrom 73 = .ok (.iload_n 2, 1) := by decide +kernel
theorem dX5_copyFrom_74 : decode cX5_copyFrom 74 = .ok (.aaload, 1) := by decide +kernel
theorem dX5_copyFrom_75 : decode cX5_copyFrom 75 = .ok (.astore 4, 2) := by decide +kernel
theorem dX5_copyFrom_77 : decode cX5_copyFrom 77 = .ok (.aload_n 3, 1) := by decide +kernel
theorem dX5_copyFrom_78 : decode cX5_copyFrom 78 = .ok (.ifnull 14, 3) := by decide +kernel
theorem dX5_copyFrom_81 : decode cX5_copyFrom 81 = .ok (.aload 4, 2) := by decide +kernel
theorem dX5_copyFrom_83 : decode cX5_copyFrom 83 = .ok (.ifnull 9, 3) := by decide +kernel
theorem dX5_copyFrom_86 : decode cX5_copyFrom 86 = .ok (.aload_n 3, 1) := by decide +kernel
theorem dX5_copyFrom_87 : decode cX5_copyFrom 87 = .ok (.aload 4, 2) := by decide +kernel
theorem dX5_copyFrom_89 : decode cX5_copyFrom 89 = .ok (.invokevirtual 44, 3) := by decide +kernel
theorem dX5_copyFrom_92 : decode cX5_copyFrom 92 = .ok (.iinc 2 1, 3) := by decide +kernel
theorem dX5_copyFrom_95 : decode cX5_copyFrom 95 = .ok (.goto (-38), 3) := by decide +kernel
theorem dX5_copyFrom_98 : decode cX5_copyFrom 98 = .ok (.return_, 1) := by decide +kernel
theorem dX6_init_0 : decode cX6_init 0 = .ok (.aload_n 0, 1) := by decide +kernel
theorem dX6_init_1 : decode cX6_init 1 = .ok (.invokespecial 1, 3) := by decide +kernel
theorem dX6_init_4 : decode cX6_init 4 = .ok (.aload_n 0, 1) := by decide +kernel
theorem dX6_init_5 : decode cX6_init 5 = .ok (.new 7, 3) := by decide +kernel
theorem dX6_init_8 : decode cX6_init 8 = .ok (.dup, 1) := by decide +kernel
theorem dX6_init_9 : decode cX6_init 9 = .ok (.invokespecial 9, 3) := by decide +kernel
theorem dX6_init_12 : decode cX6_init 12 = .ok (.putfield 10, 3) := by decide +kernel
theorem dX6_init_15 : decode cX6_init 15 = .ok (.aload_n 0, 1) := by decide +kernel
theorem dX6_init_16 : decode cX6_init 16 = .ok (.new 16, 3) := by decide +kernel
theorem dX6_init_19 : decode cX6_init 19 = .ok (.dup, 1) := by decide +kernel
theorem dX6_init_20 : decode cX6_init 20 = .ok (.invokespecial 18, 3) := by decide +kernel
theorem dX6_init_23 : decode cX6_init 23 = .ok (.putfield 19, 3) := by decide +kernel
theorem dX6_init_26 : decode cX6_init 26 = .ok (.aload_n 0, 1) := by decide +kernel
theorem dX6_init_27 : decode cX6_init 27 = .ok (.iconst 2, 1) := by decide +kernel
theorem dX6_init_28 : decode cX6_init 28 = .ok (.anewarray 7, 3) := by decide +kernel
theorem dX6_init_31 : decode cX6_init 31 = .ok (.putfield 23, 3) := by decide +kernel
theorem dX6_init_34 : decode cX6_init 34 = .ok (.aload_n 0, 1) := by decide +kernel
theorem dX6_init_35 : decode cX6_init 35 = .ok (.new 27, 3) := by decide +kernel
theorem dX6_init_38 : decode cX6_init 38 = .ok (.dup, 1) := by decide +kernel
theorem dX6_init_39 : decode cX6_init 39 = .ok (.invokespecial 29, 3) := by decide +kernel
theorem dX6_init_42 : decode cX6_init 42 = .ok (.putfield 30, 3) := by decide +kernel
theorem dX6_init_45 : decode cX6_init 45 = .ok (.aload_n 0, 1) := by decide +kernel
theorem dX6_init_46 : decode cX6_init 46 = .ok (.new 34, 3) := by decide +kernel
theorem dX6_init_49 : decode cX6_init 49 = .ok (.dup, 1) := by decide +kernel
theorem dX6_init_50 : decode cX6_init 50 = .ok (.invokespecial 36, 3) := by decide +kernel
theorem dX6_init_53 : decode cX6_init 53 = .ok (.putfield 37, 3) := by decide +kernel
theorem dX6_init_56 : decode cX6_init 56 = .ok (.aload_n 0, 1) := by decide +kernel
theorem dX6_init_57 : decode cX6_init 57 = .ok (.new 41, 3) := by decide +kernel
theorem dX6_init_60 : decode cX6_init 60 = .ok (.dup, 1) := by decide +kernel
theorem dX6_init_61 : decode cX6_init 61 = .ok (.invokespecial 43, 3) := by decide +kernel
theorem dX6_init_64 : decode cX6_init 64 = .ok (.putfield 44, 3) := by decide +kernel
theorem dX6_init_67 : decode cX6_init 67 = .ok (.aload_n 0, 1) := by decide +kernel
theorem dX6_init_68 : decode cX6_init 68 = .ok (.new 48, 3) := by decide +kernel
theorem dX6_init_71 : decode cX6_init 71 = .ok (.dup, 1) := by decide +kernel
theorem dX6_init_72 : decode cX6_init 72 = .ok (.invokespecial 50, 3) := by decide +kernel
theorem dX6_init_75 : decode cX6_init 75 = .ok (.putfield 51, 3) := by decide +kernel
theorem dX6_init_78 : decode cX6_init 78 = .ok (.return_, 1) := by decide +kernel
theorem dX6_set_0 : decode cX6_set 0 = .ok (.aload_n 0, 1) := by decide +kernel
theorem dX6_set_1 : decode cX6_set 1 = .ok (.getfield 19, 3) := by decide +kernel
theorem dX6_set_4 : decode cX6_set 4 = .ok (.aload_n 0, 1) := by decide +kernel
theorem dX6_set_5 : decode cX6_set 5 = .ok (.getfield 10, 3) := by decide +kernel
theorem dX6_set_8 : decode cX6_set 8 = .ok (.invokevirtual 55, 3) := by decide +kernel
theorem dX6_set_11 : decode cX6_set 11 = .ok (.aload_n 0, 1) := by decide +kernel
theorem dX6_set_12 : decode cX6_set 12 = .ok (.getfield 19, 3) := by decide +kernel
theorem dX6_set_15 : decode cX6_set 15 = .ok (.aload_n 0, 1) := by decide +kernel
theorem dX6_set_16 : decode cX6_set 16 = .ok (.iload_n 1, 1) := by decide +kernel
theorem dX6_set_17 : decode cX6_set 17 = .ok (.iload_n 2, 1) := by decide +kernel
theorem dX6_set_18 : decode cX6_set 18 = .ok (.invokevirtual 59, 3) := by decide +kernel
theorem dX6_set_21 : decode cX6_set 21 = .ok (.invokevirtual 63, 3) := by decide +kernel
theorem dX6_set_24 : decode cX6_set 24 = .ok (.ireturn, 1) := by decide +kernel
theorem dX6_chapter_0 : decode cX6_chapter 0 = .ok (.aload_n 0, 1) := by decide +kernel
theorem dX6_chapter_1 : decode cX6_chapter 1 = .ok (.getfield 19, 3) := by decide +kernel
theorem dX6_chapter_4 : decode cX6_chapter 4 = .ok (.aload_n 0, 1) := by decide +kernel
theorem dX6_chapter_5 : decode cX6_chapter 5 = .ok (.getfield 10, 3) := by decide +kernel
theorem dX6_chapter_8 : decode cX6_chapter 8 = .ok (.invokevirtual 55, 3) := by decide +kernel
theorem dX6_chapter_11 : decode cX6_chapter 11 = .ok (.aload_n 0, 1) := by decide +kernel
theorem dX6_chapter_12 : decode cX6_chapter 12 = .ok (.getfield 19, 3) := by decide +kernel
theorem dX6_chapter_15 : decode cX6_chapter 15 = .ok (.aload_n 0, 1) := by decide +kernel
theorem dX6_chapter_16 : decode cX6_chapter 16 = .ok (.iload_n 1, 1) := by decide +kernel
theorem dX6_chapter_17 : decode cX6_chapter 17 = .ok (.invokevirtual 67, 3) := by decide +kernel
theorem dX6_chapter_20 : decode cX6_chapter 20 = .ok (.invokevirtual 63, 3) := by decide +kernel
theorem dX6_chapter_23 : decode cX6_chapter 23 = .ok (.ireturn, 1) := by decide +kernel
theorem dX6_cup_0 : decode cX6_cup 0 = .ok (.aload_n 0, 1) := by decide +kernel
theorem dX6_cup_1 : decode cX6_cup 1 = .ok (.getfield 19, 3) := by decide +kernel
theorem dX6_cup_4 : decode cX6_cup 4 = .ok (.aload_n 0, 1) := by decide +kernel
theorem dX6_cup_5 : decode cX6_cup 5 = .ok (.getfield 10, 3) := by decide +kernel
theorem dX6_cup_8 : decode cX6_cup 8 = .ok (.invokevirtual 55, 3) := by decide +kernel
theorem dX6_cup_11 : decode cX6_cup 11 = .ok (.aload_n 0, 1) := by decide +kernel
theorem dX6_cup_12 : decode cX6_cup 12 = .ok (.getfield 19, 3) := by decide +kernel
theorem dX6_cup_15 : decode cX6_cup 15 = .ok (.aload_n 0, 1) := by decide +kernel
theorem dX6_cup_16 : decode cX6_cup 16 = .ok (.invokevirtual 70, 3) := by decide +kernel
theorem dX6_cup_19 : decode cX6_cup 19 = .ok (.invokevirtual 63, 3) := by decide +kernel
theorem dX6_cup_22 : decode cX6_cup 22 = .ok (.ireturn, 1) := by decide +kernel
theorem dX6_empty_0 : decode cX6_empty 0 = .ok (.aload_n 0, 1) := by decide +kernel
theorem dX6_empty_1 : decode cX6_empty 1 = .ok (.getfield 19, 3) := by decide +kernel
theorem dX6_empty_4 : decode cX6_empty 4 = .ok (.aload_n 0, 1) := by decide +kernel
theorem dX6_empty_5 : decode cX6_empty 5 = .ok (.getfield 10, 3) := by decide +kernel
theorem dX6_empty_8 : decode cX6_empty 8 = .ok (.invokevirtual 55, 3) := by decide +kernel
theorem dX6_empty_11 : decode cX6_empty 11 = .ok (.aload_n 0, 1) := by decide +kernel
theorem dX6_empty_12 : decode cX6_empty 12 = .ok (.getfield 19, 3) := by decide +kernel
theorem dX6_empty_15 : decode cX6_empty 15 = .ok (.aload_n 0, 1) := by decide +kernel
theorem dX6_empty_16 : decode cX6_empty 16 = .ok (.iload_n 1, 1) := by decide +kernel
theorem dX6_empty_17 : decode cX6_empty 17 = .ok (.invokevirtual 74, 3) := by decide +kernel
theorem dX6_empty_20 : decode cX6_empty 20 = .ok (.invokevirtual 63, 3) := by decide +kernel
theorem dX6_empty_23 : decode cX6_empty 23 = .ok (.ireturn, 1) := by decide +kernel
theorem dX6_pour_0 : decode cX6_pour 0 = .ok (.aload_n 0, 1) := by decide +kernel
theorem dX6_pour_1 : decode cX6_pour 1 = .ok (.getfield 19, 3) := by decide +kernel
theorem dX6_pour_4 : decode cX6_pour 4 = .ok (.aload_n 0, 1) := by decide +kernel
theorem dX6_pour_5 : decode cX6_pour 5 = .ok (.getfield 10, 3) := by decide +kernel
theorem dX6_pour_8 : decode cX6_pour 8 = .ok (.invokevirtual 55, 3) := by decide +kernel
theorem dX6_pour_11 : decode cX6_pour 11 = .ok (.aload_n 0, 1) := by decide +kernel
theorem dX6_pour_12 : decode cX6_pour 12 = .ok (.getfield 19, 3) := by decide +kernel
theorem dX6_pour_15 : decode cX6_pour 15 = .ok (.aload_n 0, 1) := by decide +kernel
theorem dX6_pour_16 : decode cX6_pour 16 = .ok (.iload_n 1, 1) := by decide +kernel
theorem dX6_pour_17 : decode cX6_pour 17 = .ok (.iload_n 2, 1) := by decide +kernel
theorem dX6_pour_18 : decode cX6_pour 18 = .ok (.iload_n 3, 1) := by decide +kernel
theorem dX6_pour_19 : decode cX6_pour 19 = .ok (.invokevirtual 77, 3) := by decide +kernel
theorem dX6_pour_22 : decode cX6_pour 22 = .ok (.invokevirtual 63, 3) := by decide +kernel
theorem dX6_pour_25 : decode cX6_pour 25 = .ok (.ireturn, 1) := by decide +kernel
theorem dX6_solve_0 : decode cX6_solve 0 = .ok (.aload_n 0, 1) := by decide +kernel
theorem dX6_solve_1 : decode cX6_solve 1 = .ok (.getfield 19, 3) := by decide +kernel
theorem dX6_solve_4 : decode cX6_solve 4 = .ok (.aload_n 0, 1) := by decide +kernel
theorem dX6_solve_5 : decode cX6_solve 5 = .ok (.getfield 10, 3) := by decide +kernel
theorem dX6_solve_8 : decode cX6_solve 8 = .ok (.invokevirtual 55, 3) := by decide +kernel
theorem dX6_solve_11 : decode cX6_solve 11 = .ok (.aload_n 0, 1) := by decide +kernel
theorem dX6_solve_12 : decode cX6_solve 12 = .ok (.getfield 19, 3) := by decide +kernel
theorem dX6_solve_15 : decode cX6_solve 15 = .ok (.aload_n 0, 1) := by decide +kernel
theorem dX6_solve_16 : decode cX6_solve 16 = .ok (.iload_n 1, 1) := by decide +kernel
theorem dX6_solve_17 : decode cX6_solve 17 = .ok (.invokevirtual 81, 3) := by decide +kernel
theorem dX6_solve_20 : decode cX6_solve 20 = .ok (.invokevirtual 63, 3) := by decide +kernel
theorem dX6_solve_23 : decode cX6_solve 23 = .ok (.ireturn, 1) := by decide +kernel
theorem dX6_droplet_0 : decode cX6_droplet 0 = .ok (.iload_n 1, 1) := by decide +kernel
theorem dX6_droplet_1 : decode cX6_droplet 1 = .ok (.iconst 0, 1) := by decide +kernel
theorem dX6_droplet_2 : decode cX6_droplet 2 = .ok (.ldc 84, 2) := by decide +kernel
theorem dX6_droplet_4 : decode cX6_droplet 4 = .ok (.invokestatic 85, 3) := by decide +kernel
theorem dX6_droplet_7 : decode cX6_droplet 7 = .ok (.ifCond .eq 12, 3) := by decide +kernel
theorem dX6_droplet_10 : decode cX6_droplet 10 = .ok (.iload_n 2, 1) := by decide +kernel
theorem dX6_droplet_11 : decode cX6_droplet 11 = .ok (.iconst 0, 1) := by decide +kernel
theorem dX6_droplet_12 : decode cX6_droplet 12 = .ok (.iconst 3, 1) := by decide +kernel
theorem dX6_droplet_13 : decode cX6_droplet 13 = .ok (.invokestatic 85, 3) := by decide +kernel
theorem dX6_droplet_16 : decode cX6_droplet 16 = .ok (.ifCond .ne 6, 3) := by decide +kernel
theorem dX6_droplet_19 : decode cX6_droplet 19 = .ok (.bipush (-2), 2) := by decide +kernel
theorem dX6_droplet_21 : decode cX6_droplet 21 = .ok (.ireturn, 1) := by decide +kernel
theorem dX6_droplet_22 : decode cX6_droplet 22 = .ok (.aload_n 0, 1) := by decide +kernel
theorem dX6_droplet_23 : decode cX6_droplet 23 = .ok (.getfield 10, 3) := by decide +kernel
theorem dX6_droplet_26 : decode cX6_droplet 26 = .ok (.getfield 89, 3) := by decide +kernel
theorem dX6_droplet_29 : decode cX6_droplet 29 = .ok (.ifCond .ne 6, 3) := by decide +kernel
theorem dX6_droplet_32 : decode cX6_droplet 32 = .ok (.bipush (-5), 2) := by decide +kernel
theorem dX6_droplet_34 : decode cX6_droplet 34 = .ok (.ireturn, 1) := by decide +kernel
theorem dX6_droplet_35 : decode cX6_droplet 35 = .ok (.aload_n 0, 1) := by decide +kernel
theorem dX6_droplet_36 : decode cX6_droplet 36 = .ok (.getfield 37, 3) := by decide +kernel
theorem dX6_droplet_39 : decode cX6_droplet 39 = .ok (.aload_n 0, 1) := by decide +kernel
theorem dX6_droplet_40 : decode cX6_droplet 40 = .ok (.getfield 10, 3) := by decide +kernel
theorem dX6_droplet_43 : decode cX6_droplet 43 = .ok (.iload_n 1, 1) := by decide +kernel
theorem dX6_droplet_44 : decode cX6_droplet 44 = .ok (.invokevirtual 93, 3) := by decide +kernel
theorem dX6_droplet_47 : decode cX6_droplet 47 = .ok (.iload_n 2, 1) := by decide +kernel
theorem dX6_droplet_48 : decode cX6_droplet 48 = .ok (.tableswitch 52 0 2 #[28, 36, 44], 28) := by decide +kernel
theorem dX6_droplet_76 : decode cX6_droplet 76 = .ok (.aload_n 0, 1) := by decide +kernel
theorem dX6_droplet_77 : decode cX6_droplet 77 = .ok (.getfield 37, 3) := by decide +kernel
theorem dX6_droplet_80 : decode cX6_droplet 80 = .ok (.getfield 97, 3) := by decide +kernel
theorem dX6_droplet_83 : decode cX6_droplet 83 = .ok (.ireturn, 1) := by decide +kernel
theorem dX6_droplet_84 : decode cX6_droplet 84 = .ok (.aload_n 0, 1) := by decide +kernel
theorem dX6_droplet_85 : decode cX6_droplet 85 = .ok (.getfield 37, 3) := by decide +kernel
theorem dX6_droplet_88 : decode cX6_droplet 88 = .ok (.getfield 100, 3) := by decide +kernel
theorem dX6_droplet_91 : decode cX6_droplet 91 = .ok (.ireturn, 1) := by decide +kernel
theorem dX6_droplet_92 : decode cX6_droplet 92 = .ok (.aload_n 0, 1) := by decide +kernel
theorem dX6_droplet_93 : decode cX6_droplet 93 = .ok (.getfield 37, 3) := by decide +kernel
theorem dX6_droplet_96 : decode cX6_droplet 96 = .ok (.getfield 103, 3) := by decide +kernel
theorem dX6_droplet_99 : decode cX6_droplet 99 = .ok (.ireturn, 1) := by decide +kernel
theorem dX6_droplet_100 : decode cX6_droplet 100 = .ok (.aload_n 0, 1) := by decide +kernel
theorem dX6_droplet_101 : decode cX6_droplet 101 = .ok (.getfield 37, 3) := by decide +kernel
theorem dX6_droplet_104 : decode cX6_droplet 104 = .ok (.getfield 106, 3) := by decide +kernel
theorem dX6_droplet_107 : decode cX6_droplet 107 = .ok (.ifCond .eq 7, 3) := by decide +kernel
theorem dX6_droplet_110 : decode cX6_droplet 110 = .ok (.iconst 1, 1) := by decide +kernel
theorem dX6_droplet_111 : decode cX6_droplet 111 = .ok (.goto 4, 3) := by decide +kernel
theorem dX6_droplet_114 : decode cX6_droplet 114 = .ok (.iconst 0, 1) := by decide +kernel
theorem dX6_droplet_115 : decode cX6_droplet 115 = .ok (.ireturn, 1) := by decide +kernel
theorem dX6_ofCup_0 : decode cX6_ofCup 0 = .ok (.aload_n 0, 1) := by decide +kernel
theorem dX6_ofCup_1 : decode cX6_ofCup 1 = .ok (.getfield 10, 3) := by decide +kernel
theorem dX6_ofCup_4 : decode cX6_ofCup 4 = .ok (.iload_n 1, 1) := by decide +kernel
theorem dX6_ofCup_5 : decode cX6_ofCup 5 = .ok (.invokevirtual 110, 3) := by decide +kernel
theorem dX6_ofCup_8 : decode cX6_ofCup 8 = .ok (.astore_n 3, 1) := by decide +kernel
theorem dX6_ofCup_9 : decode cX6_ofCup 9 = .ok (.aload_n 3, 1) := by decide +kernel
theorem dX6_ofCup_10 : decode cX6_ofCup 10 = .ok (.ifnonnull 5, 3) := by decide +kernel
theorem dX6_ofCup_13 : decode cX6_ofCup 13 = .ok (.iconst (-1), 1) := by decide +kernel
theorem dX6_ofCup_14 : decode cX6_ofCup 14 = .ok (.ireturn, 1) := by decide +kernel
theorem dX6_ofCup_15 : decode cX6_ofCup 15 = .ok (.iload_n 2, 1) := by decide +kernel
theorem dX6_ofCup_16 : decode cX6_ofCup 16 = .ok (.tableswitch 104 0 6 #[44, 49, 54, 59, 64, 69, 83], 44) := by decide +kernel
theorem dX6_ofCup_60 : decode cX6_ofCup 60 = .ok (.aload_n 3, 1) := by decide +kernel
theorem dX6_ofCup_61 : decode cX6_ofCup 61 = .ok (.getfield 114, 3) := by decide +kernel
theorem dX6_ofCup_64 : decode cX6_ofCup 64 = .ok (.ireturn, 1) := by decide +kernel
theorem dX6_ofCup_65 : decode cX6_ofCup 65 = .ok (.aload_n 3, 1) := by decide +kernel
theorem dX6_ofCup_66 : decode cX6_ofCup 66 = .ok (.getfield 117, 3) := by decide +kernel
theorem dX6_ofCup_69 : decode cX6_ofCup 69 = .ok (.ireturn, 1) := by decide +kernel
theorem dX6_ofCup_70 : decode cX6_ofCup 70 = .ok (.aload_n 3, 1) := by decide +kernel
theorem dX6_ofCup_71 : decode cX6_ofCup 71 = .ok (.getfield 120, 3) := by decide +kernel
theorem dX6_ofCup_74 : decode cX6_ofCup 74 = .ok (.ireturn, 1) := by decide +kernel
theorem dX6_ofCup_75 : decode cX6_ofCup 75 = .ok (.aload_n 3, 1) := by decide +kernel
theorem dX6_ofCup_76 : decode cX6_ofCup 76 = .ok (.getfield 123, 3) := by decide +kernel
theorem dX6_ofCup_79 : decode cX6_ofCup 79 = .ok (.ireturn, 1) := by decide +kernel
theorem dX6_ofCup_80 : decode cX6_ofCup 80 = .ok (.aload_n 3, 1) := by decide +kernel
theorem dX6_ofCup_81 : decode cX6_ofCup 81 = .ok (.getfield 125, 3) := by decide +kernel
theorem dX6_ofCup_84 : decode cX6_ofCup 84 = .ok (.ireturn, 1) := by decide +kernel
theorem dX6_ofCup_85 : decode cX6_ofCup 85 = .ok (.aload_n 0, 1) := by decide +kernel
theorem dX6_ofCup_86 : decode cX6_ofCup 86 = .ok (.aload_n 3, 1) := by decide +kernel
theorem dX6_ofCup_87 : decode cX6_ofCup 87 = .ok (.invokevirtual 128, 3) := by decide +kernel
theorem dX6_ofCup_90 : decode cX6_ofCup 90 = .ok (.ifCond .eq 7, 3) := by decide +kernel
theorem dX6_ofCup_93 : decode cX6_ofCup 93 = .ok (.iconst 1, 1) := by decide +kernel
theorem dX6_ofCup_94 : decode cX6_ofCup 94 = .ok (.goto 4, 3) := by decide +kernel
theorem dX6_ofCup_97 : decode cX6_ofCup 97 = .ok (.iconst 0, 1) := by decide +kernel
theorem dX6_ofCup_98 : decode cX6_ofCup 98 = .ok (.ireturn, 1) := by decide +kernel
theorem dX6_ofCup_99 : decode cX6_ofCup 99 = .ok (.aload_n 0, 1) := by decide +kernel
theorem dX6_ofCup_100 : decode cX6_ofCup 100 = .ok (.getfield 51, 3) := by decide +kernel
theorem dX6_ofCup_103 : decode cX6_ofCup 103 = .ok (.aload_n 3, 1) := by decide +kernel
theorem dX6_ofCup_104 : decode cX6_ofCup 104 = .ok (.invokevirtual 132, 3) := by decide +kernel
theorem dX6_ofCup_107 : decode cX6_ofCup 107 = .ok (.aload_n 3, 1) := by decide +kernel
theorem dX6_ofCup_108 : decode cX6_ofCup 108 = .ok (.invokevirtual 136, 3) := by decide +kernel
theorem dX6_ofCup_111 : decode cX6_ofCup 111 = .ok (.aload_n 0, 1) := by decide +kernel
theorem dX6_ofCup_112 : decode cX6_ofCup 112 = .ok (.getfield 51, 3) := by decide +kernel
theorem dX6_ofCup_115 : decode cX6_ofCup 115 = .ok (.invokevirtual 139, 3) := by decide +kernel
theorem dX6_ofCup_118 : decode cX6_ofCup 118 = .ok (.iadd, 1) := by decide +kernel
theorem dX6_ofCup_119 : decode cX6_ofCup 119 = .ok (.ireturn, 1) := by decide +kernel
theorem dX6_ofCup_120 : decode cX6_ofCup 120 = .ok (.bipush (-2), 2) := by decide +kernel
theorem dX6_ofCup_122 : decode cX6_ofCup 122 = .ok (.ireturn, 1) := by decide +kernel
theorem dX6_known_0 : decode cX6_known 0 = .ok (.aload_n 0, 1) := by decide +kernel
theorem dX6_known_1 : decode cX6_known 1 = .ok (.getfield 10, 3) := by decide +kernel
theorem dX6_known_4 : decode cX6_known 4 = .ok (.iload_n 1, 1) := by decide +kernel
theorem dX6_known_5 : decode cX6_known 5 = .ok (.invokevirtual 110, 3) := by decide +kernel
theorem dX6_known_8 : decode cX6_known 8 = .ok (.astore_n 3, 1) := by decide +kernel
theorem dX6_known_9 : decode cX6_known 9 = .ok (.aload_n 3, 1) := by decide +kernel
theorem dX6_known_10 : decode cX6_known 10 = .ok (.ifnull 24, 3) := by decide +kernel
theorem dX6_known_13 : decode cX6_known 13 = .ok (.iload_n 2, 1) := by decide +kernel
theorem dX6_known_14 : decode cX6_known 14 = .ok (.iconst 0, 1) := by decide +kernel
theorem dX6_known_15 : decode cX6_known 15 = .ok (.bipush 15, 2) := by decide +kernel
theorem dX6_known_17 : decode cX6_known 17 = .ok (.invokestatic 85, 3) := by decide +kernel
theorem dX6_known_20 : decode cX6_known 20 = .ok (.ifCond .eq 14, 3) := by decide +kernel
theorem dX6_known_23 : decode cX6_known 23 = .ok (.iload_n 2, 1) := by decide +kernel
theorem dX6_known_24 : decode cX6_known 24 = .ok (.aload_n 0, 1) := by decide +kernel
theorem dX6_known_25 : decode cX6_known 25 = .ok (.getfield 10, 3) := by decide +kernel
theorem dX6_known_28 : decode cX6_known 28 = .ok (.getfield 89, 3) := by decide +kernel
theorem dX6_known_31 : decode cX6_known 31 = .ok (.if_icmp .lt 5, 3) := by decide +kernel
theorem dX6_known_34 : decode cX6_known 34 = .ok (.iconst (-1), 1) := by decide +kernel
theorem dX6_known_35 : decode cX6_known 35 = .ok (.ireturn, 1) := by decide +kernel
theorem dX6_known_36 : decode cX6_known 36 = .ok (.aload_n 3, 1) := by decide +kernel
theorem dX6_known_37 : decode cX6_known 37 = .ok (.getfield 114, 3) := by decide +kernel
theorem dX6_known_40 : decode cX6_known 40 = .ok (.iconst 1, 1) := by decide +kernel
theorem dX6_known_41 : decode cX6_known 41 = .ok (.iload_n 2, 1) := by decide +kernel
theorem dX6_known_42 : decode cX6_known 42 = .ok (.ishl, 1) := by decide +kernel
theorem dX6_known_43 : decode cX6_known 43 = .ok (.iand, 1) := by decide +kernel
theorem dX6_known_44 : decode cX6_known 44 = .ok (.ifCond .ne 8, 3) := by decide +kernel
theorem dX6_known_47 : decode cX6_known 47 = .ok (.bipush (-6), 2) := by decide +kernel
theorem dX6_known_49 : decode cX6_known 49 = .ok (.goto 9, 3) := by decide +kernel
theorem dX6_known_52 : decode cX6_known 52 = .ok (.aload_n 3, 1) := by decide +kernel
theorem dX6_known_53 : decode cX6_known 53 = .ok (.getfield 142, 3) := by decide +kernel
theorem dX6_known_56 : decode cX6_known 56 = .ok (.iload_n 2, 1) := by decide +kernel
theorem dX6_known_57 : decode cX6_known 57 = .ok (.iaload, 1) := by decide +kernel
theorem dX6_known_58 : decode cX6_known 58 = .ok (.ireturn, 1) := by decide +kernel
theorem dX6_kept_0 : decode cX6_kept 0 = .ok (.aload_n 0, 1) := by decide +kernel
theorem dX6_kept_1 : decode cX6_kept 1 = .ok (.getfield 10, 3) := by decide +kernel
theorem dX6_kept_4 : decode cX6_kept 4 = .ok (.iload_n 1, 1) := by decide +kernel
theorem dX6_kept_5 : decode cX6_kept 5 = .ok (.invokevirtual 110, 3) := by decide +kernel
theorem dX6_kept_8 : decode cX6_kept 8 = .ok (.astore 4, 2) := by decide +kernel
theorem dX6_kept_10 : decode cX6_kept 10 = .ok (.aload 4, 2) := by decide +kernel
theorem dX6_kept_12 : decode cX6_kept 12 = .ok (.ifnull 22, 3) := by decide +kernel
theorem dX6_kept_15 : decode cX6_kept 15 = .ok (.iload_n 2, 1) := by decide +kernel
theorem dX6_kept_16 : decode cX6_kept 16 = .ok (.iconst 0, 1) := by decide +kernel
theorem dX6_kept_17 : decode cX6_kept 17 = .ok (.bipush 23, 2) := by decide +kernel
theorem dX6_kept_19 : decode cX6_kept 19 = .ok (.invokestatic 85, 3) := by decide +kernel
theorem dX6_kept_22 : decode cX6_kept 22 = .ok (.ifCond .eq 12, 3) := by decide +kernel
theorem dX6_kept_25 : decode cX6_kept 25 = .ok (.iload_n 2, 1) := by decide +kernel
theorem dX6_kept_26 : decode cX6_kept 26 = .ok (.aload 4, 2) := by decide +kernel
theorem dX6_kept_28 : decode cX6_kept 28 = .ok (.getfield 117, 3) := by decide +kernel
theorem dX6_kept_31 : decode cX6_kept 31 = .ok (.if_icmp .lt 5, 3) := by decide +kernel
theorem dX6_kept_34 : decode cX6_kept 34 = .ok (.iconst (-1), 1) := by decide +kernel
theorem dX6_kept_35 : decode cX6_kept 35 = .ok (.ireturn, 1) := by decide +kernel
theorem dX6_kept_36 : decode cX6_kept 36 = .ok (.iload_n 3, 1) := by decide +kernel
theorem dX6_kept_37 : decode cX6_kept 37 = .ok (.lookupswitch 43 #[(0, 27), (1, 35)], 27) := by decide +kernel
theorem dX6_kept_64 : decode cX6_kept 64 = .ok (.aload 4, 2) := by decide +kernel
theorem dX6_kept_66 : decode cX6_kept 66 = .ok (.getfield 146, 3) := by decide +kernel
theorem dX6_kept_69 : decode cX6_kept 69 = .ok (.iload_n 2, 1) := by decide +kernel
theorem dX6_kept_70 : decode cX6_kept 70 = .ok (.iaload, 1) := by decide +kernel
theorem dX6_kept_71 : decode cX6_kept 71 = .ok (.ireturn, 1) := by decide +kernel
theorem dX6_kept_72 : decode cX6_kept 72 = .ok (.aload 4, 2) := by decide +kernel
theorem dX6_kept_74 : decode cX6_kept 74 = .ok (.getfield 149, 3) := by decide +kernel
theorem dX6_kept_77 : decode cX6_kept 77 = .ok (.iload_n 2, 1) := by decide +kernel
theorem dX6_kept_78 : decode cX6_kept 78 = .ok (.iaload, 1) := by decide +kernel
theorem dX6_kept_79 : decode cX6_kept 79 = .ok (.ireturn, 1) := by decide +kernel
theorem dX6_kept_80 : decode cX6_kept 80 = .ok (.bipush (-2), 2) := by decide +kernel
theorem dX6_kept_82 : decode cX6_kept 82 = .ok (.ireturn, 1) := by decide +kernel
theorem dX6_count_0 : decode cX6_count 0 = .ok (.iload_n 1, 1) := by decide +kernel
theorem dX6_count_1 : decode cX6_count 1 = .ok (.tableswitch 108 0 7 #[47, 55, 63, 68, 76, 84, 92, 100], 47) := by decide +kernel
theorem dX6_count_48 : decode cX6_count 48 = .ok (.aload_n 0, 1) := by decide +kernel
theorem dX6_count_49 : decode cX6_count 49 = .ok (.getfield 10, 3) := by decide +kernel
theorem dX6_count_52 : decode cX6_count 52 = .ok (.getfield 89, 3) := by decide +kernel
theorem dX6_count_55 : decode cX6_count 55 = .ok (.ireturn, 1) := by decide +kernel
theorem dX6_count_56 : decode cX6_count 56 = .ok (.aload_n 0, 1) := by decide +kernel
theorem dX6_count_57 : decode cX6_count 57 = .ok (.getfield 10, 3) := by decide +kernel
theorem dX6_count_60 : decode cX6_count 60 = .ok (.getfield 152, 3) := by decide +kernel
theorem dX6_count_63 : decode cX6_count 63 = .ok (.ireturn, 1) := by decide +kernel
theorem dX6_count_64 : decode cX6_count 64 = .ok (.aload_n 0, 1) := by decide +kernel
theorem dX6_count_65 : decode cX6_count 65 = .ok (.invokevirtual 155, 3) := by decide +kernel
theorem dX6_count_68 : decode cX6_count 68 = .ok (.ireturn, 1) := by decide +kernel
theorem dX6_count_69 : decode cX6_count 69 = .ok (.aload_n 0, 1) := by decide +kernel
theorem dX6_count_70 : decode cX6_count 70 = .ok (.getfield 10, 3) := by decide +kernel
theorem dX6_count_73 : decode cX6_count 73 = .ok (.getfield 158, 3) := by decide +kernel
theorem dX6_count_76 : decode cX6_count 76 = .ok (.ireturn, 1) := by decide +kernel
theorem dX6_count_77 : decode cX6_count 77 = .ok (.aload_n 0, 1) := by decide +kernel
theorem dX6_count_78 : decode cX6_count 78 = .ok (.getfield 10, 3) := by decide +kernel
theorem dX6_count_81 : decode cX6_count 81 = .ok (.getfield 159, 3) := by decide +kernel
theorem dX6_count_84 : decode cX6_count 84 = .ok (.ireturn, 1) := by decide +kernel
theorem dX6_count_85 : decode cX6_count 85 = .ok (.aload_n 0, 1) := by decide +kernel
theorem dX6_count_86 : decode cX6_count 86 = .ok (.getfield 10, 3) := by decide +kernel
theorem dX6_count_89 : decode cX6_count 89 = .ok (.getfield 162, 3) := by decide +kernel
theorem dX6_count_92 : decode cX6_count 92 = .ok (.ireturn, 1) := by decide +kernel
theorem dX6_count_93 : decode cX6_count 93 = .ok (.aload_n 0, 1) := by decide +kernel
theorem dX6_count_94 : decode cX6_count 94 = .ok (.getfield 30, 3) := by decide +kernel
theorem dX6_count_97 : decode cX6_count 97 = .ok (.getfield 165, 3) := by decide +kernel
theorem dX6_count_100 : decode cX6_count 100 = .ok (.ireturn, 1) := by decide +kernel
theorem dX6_count_101 : decode cX6_count 101 = .ok (.aload_n 0, 1) := by decide +kernel
theorem dX6_count_102 : decode cX6_count 102 = .ok (.getfield 19, 3) := by decide +kernel
theorem dX6_count_105 : decode cX6_count 105 = .ok (.getfield 168, 3) := by decide +kernel
theorem dX6_count_108 : decode cX6_count 108 = .ok (.ireturn, 1) := by decide +kernel
theorem dX6_count_109 : decode cX6_count 109 = .ok (.bipush (-2), 2) := by decide +kernel
theorem dX6_count_111 : decode cX6_count 111 = .ok (.ireturn, 1) := by decide +kernel
theorem dX6_would_0 : decode cX6_would 0 = .ok (.aload_n 0, 1) := by decide +kernel
theorem dX6_would_1 : decode cX6_would 1 = .ok (.getfield 10, 3) := by decide +kernel
theorem dX6_would_4 : decode cX6_would 4 = .ok (.iload_n 1, 1) := by decide +kernel
theorem dX6_would_5 : decode cX6_would 5 = .ok (.invokevirtual 110, 3) := by decide +kernel
theorem dX6_would_8 : decode cX6_would 8 = .ok (.astore_n 3, 1) := by decide +kernel
theorem dX6_would_9 : decode cX6_would 9 = .ok (.aload_n 3, 1) := by decide +kernel
theorem dX6_would_10 : decode cX6_would 10 = .ok (.ifnonnull 5, 3) := by decide +kernel
theorem dX6_would_13 : decode cX6_would 13 = .ok (.iconst (-1), 1) := by decide +kernel
theorem dX6_would_14 : decode cX6_would 14 = .ok (.ireturn, 1) := by decide +kernel
theorem dX6_would_15 : decode cX6_would 15 = .ok (.aload_n 0, 1) := by decide +kernel
theorem dX6_would_16 : decode cX6_would 16 = .ok (.iload_n 2, 1) := by decide +kernel
theorem dX6_would_17 : decode cX6_would 17 = .ok (.iconst 1, 1) := by decide +kernel
theorem dX6_would_18 : decode cX6_would 18 = .ok (.invokevirtual 171, 3) := by decide +kernel
theorem dX6_would_21 : decode cX6_would 21 = .ok (.istore 4, 2) := by decide +kernel
theorem dX6_would_23 : decode cX6_would 23 = .ok (.iload 4, 2) := by decide +kernel
theorem dX6_would_25 : decode cX6_would 25 = .ok (.ifCond .ge 6, 3) := by decide +kernel
theorem dX6_would_28 : decode cX6_would 28 = .ok (.iload 4, 2) := by decide +kernel
theorem dX6_would_30 : decode cX6_would 30 = .ok (.ireturn, 1) := by decide +kernel
theorem dX6_would_31 : decode cX6_would 31 = .ok (.aload_n 0, 1) := by decide +kernel
theorem dX6_would_32 : decode cX6_would 32 = .ok (.getfield 37, 3) := by decide +kernel
theorem dX6_would_35 : decode cX6_would 35 = .ok (.aload_n 0, 1) := by decide +kernel
theorem dX6_would_36 : decode cX6_would 36 = .ok (.getfield 10, 3) := by decide +kernel
theorem dX6_would_39 : decode cX6_would 39 = .ok (.iload_n 2, 1) := by decide +kernel
theorem dX6_would_40 : decode cX6_would 40 = .ok (.invokevirtual 93, 3) := by decide +kernel
theorem dX6_would_43 : decode cX6_would 43 = .ok (.aload_n 0, 1) := by decide +kernel
theorem dX6_would_44 : decode cX6_would 44 = .ok (.getfield 37, 3) := by decide +kernel
theorem dX6_would_47 : decode cX6_would 47 = .ok (.getfield 106, 3) := by decide +kernel
theorem dX6_would_50 : decode cX6_would 50 = .ok (.ifCond .eq 5, 3) := by decide +kernel
theorem dX6_would_53 : decode cX6_would 53 = .ok (.iconst 0, 1) := by decide +kernel
theorem dX6_would_54 : decode cX6_would 54 = .ok (.ireturn, 1) := by decide +kernel
theorem dX6_would_55 : decode cX6_would 55 = .ok (.aload_n 0, 1) := by decide +kernel
theorem dX6_would_56 : decode cX6_would 56 = .ok (.getfield 44, 3) := by decide +kernel
theorem dX6_would_59 : decode cX6_would 59 = .ok (.aload_n 3, 1) := by decide +kernel
theorem dX6_would_60 : decode cX6_would 60 = .ok (.invokevirtual 174, 3) := by decide +kernel
theorem dX6_would_63 : decode cX6_would 63 = .ok (.aload_n 0, 1) := by decide +kernel
theorem dX6_would_64 : decode cX6_would 64 = .ok (.getfield 44, 3) := by decide +kernel
theorem dX6_would_67 : decode cX6_would 67 = .ok (.aload_n 0, 1) := by decide +kernel
theorem dX6_would_68 : decode cX6_would 68 = .ok (.getfield 37, 3) := by decide +kernel
theorem dX6_would_71 : decode cX6_would 71 = .ok (.invokevirtual 177, 3) := by decide +kernel
theorem dX6_would_74 : decode cX6_would 74 = .ok (.istore 5, 2) := by decide +kernel
theorem dX6_would_76 : decode cX6_would 76 = .ok (.iload 5, 2) := by decide +kernel
theorem dX6_would_78 : decode cX6_would 78 = .ok (.ifCond .le 8, 3) := by decide +kernel
theorem dX6_would_81 : decode cX6_would 81 = .ok (.iconst 2, 1) := by decide +kernel
theorem dX6_would_82 : decode cX6_would 82 = .ok (.iload 5, 2) := by decide +kernel
theorem dX6_would_84 : decode cX6_would 84 = .ok (.iadd, 1) := by decide +kernel
theorem dX6_would_85 : decode cX6_would 85 = .ok (.ireturn, 1) := by decide +kernel
theorem dX6_would_86 : decode cX6_would 86 = .ok (.aload_n 0, 1) := by decide +kernel
theorem dX6_would_87 : decode cX6_would 87 = .ok (.getfield 44, 3) := by decide +kernel
theorem dX6_would_90 : decode cX6_would 90 = .ok (.getfield 125, 3) := by decide +kernel
theorem dX6_would_93 : decode cX6_would 93 = .ok (.aload_n 3, 1) := by decide +kernel
theorem dX6_would_94 : decode cX6_would 94 = .ok (.getfield 125, 3) := by decide +kernel
theorem dX6_would_97 : decode cX6_would 97 = .ok (.if_icmp .le 7, 3) := by decide +kernel
theorem dX6_would_100 : decode cX6_would 100 = .ok (.iconst 1, 1) := by decide +kernel
theorem dX6_would_101 : decode cX6_would 101 = .ok (.goto 4, 3) := by decide +kernel
theorem dX6_would_104 : decode cX6_would 104 = .ok (.iconst 2, 1) := by decide +kernel
theorem dX6_would_105 : decode cX6_would 105 = .ok (.ireturn, 1) := by decide +kernel
theorem dX6_needs_0 : decode cX6_needs 0 = .ok (.aload_n 0, 1) := by decide +kernel
theorem dX6_needs_1 : decode cX6_needs 1 = .ok (.getfield 10, 3) := by decide +kernel
theorem dX6_needs_4 : decode cX6_needs 4 = .ok (.iload_n 1, 1) := by decide +kernel
theorem dX6_needs_5 : decode cX6_needs 5 = .ok (.invokevirtual 110, 3) := by decide +kernel
theorem dX6_needs_8 : decode cX6_needs 8 = .ok (.astore_n 3, 1) := by decide +kernel
theorem dX6_needs_9 : decode cX6_needs 9 = .ok (.aload_n 3, 1) := by decide +kernel
theorem dX6_needs_10 : decode cX6_needs 10 = .ok (.ifnonnull 5, 3) := by decide +kernel
theorem dX6_needs_13 : decode cX6_needs 13 = .ok (.iconst (-1), 1) := by decide +kernel
theorem dX6_needs_14 : decode cX6_needs 14 = .ok (.ireturn, 1) := by decide +kernel
theorem dX6_needs_15 : decode cX6_needs 15 = .ok (.aload_n 0, 1) := by decide +kernel
theorem dX6_needs_16 : decode cX6_needs 16 = .ok (.iload_n 2, 1) := by decide +kernel
theorem dX6_needs_17 : decode cX6_needs 17 = .ok (.iconst 1, 1) := by decide +kernel
theorem dX6_needs_18 : decode cX6_needs 18 = .ok (.invokevirtual 171, 3) := by decide +kernel
theorem dX6_needs_21 : decode cX6_needs 21 = .ok (.istore 4, 2) := by decide +kernel
theorem dX6_needs_23 : decode cX6_needs 23 = .ok (.iload 4, 2) := by decide +kernel
theorem dX6_needs_25 : decode cX6_needs 25 = .ok (.ifCond .ge 6, 3) := by decide +kernel
theorem dX6_needs_28 : decode cX6_needs 28 = .ok (.iload 4, 2) := by decide +kernel
theorem dX6_needs_30 : decode cX6_needs 30 = .ok (.ireturn, 1) := by decide +kernel
theorem dX6_needs_31 : decode cX6_needs 31 = .ok (.aload_n 0, 1) := by decide +kernel
theorem dX6_needs_32 : decode cX6_needs 32 = .ok (.getfield 44, 3) := by decide +kernel
theorem dX6_needs_35 : decode cX6_needs 35 = .ok (.aload_n 3, 1) := by decide +kernel
theorem dX6_needs_36 : decode cX6_needs 36 = .ok (.invokevirtual 174, 3) := by decide +kernel
theorem dX6_needs_39 : decode cX6_needs 39 = .ok (.iconst 0, 1) := by decide +kernel
theorem dX6_needs_40 : decode cX6_needs 40 = .ok (.istore 5, 2) := by decide +kernel
theorem dX6_needs_42 : decode cX6_needs 42 = .ok (.iload 5, 2) := by decide +kernel
theorem dX6_needs_44 : decode cX6_needs 44 = .ok (.sipush 500, 3) := by decide +kernel
theorem dX6_needs_47 : decode cX6_needs 47 = .ok (.if_icmp .gt 53, 3) := by decide +kernel
theorem dX6_needs_50 : decode cX6_needs 50 = .ok (.aload_n 0, 1) := by decide +kernel
theorem dX6_needs_51 : decode cX6_needs 51 = .ok (.aload_n 0, 1) := by decide +kernel
theorem dX6_needs_52 : decode cX6_needs 52 = .ok (.getfield 44, 3) := by decide +kernel
theorem dX6_needs_55 : decode cX6_needs 55 = .ok (.invokevirtual 128, 3) := by decide +kernel
theorem dX6_needs_58 : decode cX6_needs 58 = .ok (.ifCond .eq 6, 3) := by decide +kernel
theorem dX6_needs_61 : decode cX6_needs 61 = .ok (.iload 5, 2) := by decide +kernel
theorem dX6_needs_63 : decode cX6_needs 63 = .ok (.ireturn, 1) := by decide +kernel
theorem dX6_needs_64 : decode cX6_needs 64 = .ok (.aload_n 0, 1) := by decide +kernel
theorem dX6_needs_65 : decode cX6_needs 65 = .ok (.getfield 37, 3) := by decide +kernel
theorem dX6_needs_68 : decode cX6_needs 68 = .ok (.aload_n 0, 1) := by decide +kernel
theorem dX6_needs_69 : decode cX6_needs 69 = .ok (.getfield 10, 3) := by decide +kernel
theorem dX6_needs_72 : decode cX6_needs 72 = .ok (.iload_n 2, 1) := by decide +kernel
theorem dX6_needs_73 : decode cX6_needs 73 = .ok (.iload 5, 2) := by decide +kernel
theorem dX6_needs_75 : decode cX6_needs 75 = .ok (.iadd, 1) := by decide +kernel
theorem dX6_needs_76 : decode cX6_needs 76 = .ok (.invokestatic 181, 3) := by decide +kernel
theorem dX6_needs_79 : decode cX6_needs 79 = .ok (.invokevirtual 93, 3) := by decide +kernel
theorem dX6_needs_82 : decode cX6_needs 82 = .ok (.aload_n 0, 1) := by decide +kernel
theorem dX6_needs_83 : decode cX6_needs 83 = .ok (.getfield 44, 3) := by decide +kernel
theorem dX6_needs_86 : decode cX6_needs 86 = .ok (.aload_n 0, 1) := by decide +kernel
theorem dX6_needs_87 : decode cX6_needs 87 = .ok (.getfield 37, 3) := by decide +kernel
theorem dX6_needs_90 : decode cX6_needs 90 = .ok (.invokevirtual 177, 3) := by decide +kernel
theorem dX6_needs_93 : decode cX6_needs 93 = .ok (.pop, 1) := by decide +kernel
theorem dX6_needs_94 : decode cX6_needs 94 = .ok (.iinc 5 1, 3) := by decide +kernel
theorem dX6_needs_97 : decode cX6_needs 97 = .ok (.goto (-55), 3) := by decide +kernel
theorem dX6_needs_100 : decode cX6_needs 100 = .ok (.bipush (-6), 2) := by decide +kernel
theorem dX6_needs_102 : decode cX6_needs 102 = .ok (.ireturn, 1) := by decide +kernel
theorem dX6_degrees_0 : decode cX6_degrees 0 = .ok (.iload_n 1, 1) := by decide +kernel
theorem dX6_degrees_1 : decode cX6_degrees 1 = .ok (.iconst 0, 1) := by decide +kernel
theorem dX6_degrees_2 : decode cX6_degrees 2 = .ok (.ldc 84, 2) := by decide +kernel
theorem dX6_degrees_4 : decode cX6_degrees 4 = .ok (.invokestatic 85, 3) := by decide +kernel
theorem dX6_degrees_7 : decode cX6_degrees 7 = .ok (.ifCond .eq 24, 3) := by decide +kernel
theorem dX6_degrees_10 : decode cX6_degrees 10 = .ok (.iload_n 2, 1) := by decide +kernel
theorem dX6_degrees_11 : decode cX6_degrees 11 = .ok (.iconst 1, 1) := by decide +kernel
theorem dX6_degrees_12 : decode cX6_degrees 12 = .ok (.sipush 999, 3) := by decide +kernel
theorem dX6_degrees_15 : decode cX6_degrees 15 = .ok (.invokestatic 85, 3) := by decide +kernel
theorem dX6_degrees_18 : decode cX6_degrees 18 = .ok (.ifCond .eq 13, 3) := by decide +kernel
theorem dX6_degrees_21 : decode cX6_degrees 21 = .ok (.iload_n 3, 1) := by decide +kernel
theorem dX6_degrees_22 : decode cX6_degrees 22 = .ok (.iconst 1, 1) := by decide +kernel
theorem dX6_degrees_23 : decode cX6_degrees 23 = .ok (.bipush 16, 2) := by decide +kernel
theorem dX6_degrees_25 : decode cX6_degrees 25 = .ok (.invokestatic 85, 3) := by decide +kernel
theorem dX6_degrees_28 : decode cX6_degrees 28 = .ok (.ifCond .ne 6, 3) := by decide +kernel
theorem dX6_degrees_31 : decode cX6_degrees 31 = .ok (.bipush (-2), 2) := by decide +kernel
theorem dX6_degrees_33 : decode cX6_degrees 33 = .ok (.ireturn, 1) := by decide +kernel
theorem dX6_degrees_34 : decode cX6_degrees 34 = .ok (.aload_n 0, 1) := by decide +kernel
theorem dX6_degrees_35 : decode cX6_degrees 35 = .ok (.getfield 10, 3) := by decide +kernel
theorem dX6_degrees_38 : decode cX6_degrees 38 = .ok (.getfield 89, 3) := by decide +kernel
theorem dX6_degrees_41 : decode cX6_degrees 41 = .ok (.ifCond .ne 6, 3) := by decide +kernel
theorem dX6_degrees_44 : decode cX6_degrees 44 = .ok (.bipush (-5), 2) := by decide +kernel
theorem dX6_degrees_46 : decode cX6_degrees 46 = .ok (.ireturn, 1) := by decide +kernel
theorem dX6_degrees_47 : decode cX6_degrees 47 = .ok (.iconst 0, 1) := by decide +kernel
theorem dX6_degrees_48 : decode cX6_degrees 48 = .ok (.istore 4, 2) := by decide +kernel
theorem dX6_degrees_50 : decode cX6_degrees 50 = .ok (.iconst 0, 1) := by decide +kernel
theorem dX6_degrees_51 : decode cX6_degrees 51 = .ok (.istore 5, 2) := by decide +kernel
theorem dX6_degrees_53 : decode cX6_degrees 53 = .ok (.iload 5, 2) := by decide +kernel
theorem dX6_degrees_55 : decode cX6_degrees 55 = .ok (.iload_n 2, 1) := by decide +kernel
theorem dX6_degrees_56 : decode cX6_degrees 56 = .ok (.if_icmp .ge 41, 3) := by decide +kernel
theorem dX6_degrees_59 : decode cX6_degrees 59 = .ok (.aload_n 0, 1) := by decide +kernel
theorem dX6_degrees_60 : decode cX6_degrees 60 = .ok (.getfield 37, 3) := by decide +kernel
theorem dX6_degrees_63 : decode cX6_degrees 63 = .ok (.aload_n 0, 1) := by decide +kernel
theorem dX6_degrees_64 : decode cX6_degrees 64 = .ok (.getfield 10, 3) := by decide +kernel
theorem dX6_degrees_67 : decode cX6_degrees 67 = .ok (.iload_n 1, 1) := by decide +kernel
theorem dX6_degrees_68 : decode cX6_degrees 68 = .ok (.iload 5, 2) := by decide +kernel
theorem dX6_degrees_70 : decode cX6_degrees 70 = .ok (.iadd, 1) := by decide +kernel
theorem dX6_degrees_71 : decode cX6_degrees 71 = .ok (.invokestatic 181, 3) := by decide +kernel
