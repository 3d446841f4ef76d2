theorem dX7_restore_13 : decode cX7_restore 13 = .ok (.aload_n 0, 1) := by decide +kernel
theorem dX7_restore_14 : decode cX7_restore 14 = .ok (.getfield 25, 3) := by decide +kernel
theorem dX7_restore_17 : decode cX7_restore 17 = .ok (.iload_n 1, 1) := by decide +kernel
theorem dX7_restore_18 : decode cX7_restore 18 = .ok (.baload, 1) := by decide +kernel
theorem dX7_restore_19 : decode cX7_restore 19 = .ok (.ifCond .ne 6, 3) := by decide +kernel
theorem dX7_restore_22 : decode cX7_restore 22 = .ok (.bipush (-5), 2) := by decide +kernel
theorem dX7_restore_24 : decode cX7_restore 24 = .ok (.ireturn, 1) := by decide +kernel
theorem dX7_restore_25 : decode cX7_restore 25 = .ok (.aload_n 0, 1) := by decide +kernel
theorem dX7_restore_26 : decode cX7_restore 26 = .ok (.invokevirtual 60, 3) := by decide +kernel
theorem dX7_restore_29 : decode cX7_restore 29 = .ok (.iconst 0, 1) := by decide +kernel
theorem dX7_restore_30 : decode cX7_restore 30 = .ok (.istore_n 2, 1) := by decide +kernel
theorem dX7_restore_31 : decode cX7_restore 31 = .ok (.iload_n 2, 1) := by decide +kernel
theorem dX7_restore_32 : decode cX7_restore 32 = .ok (.sipush 228, 3) := by decide +kernel
theorem dX7_restore_35 : decode cX7_restore 35 = .ok (.if_icmp .ge 27, 3) := by decide +kernel
theorem dX7_restore_38 : decode cX7_restore 38 = .ok (.aload_n 0, 1) := by decide +kernel
theorem dX7_restore_39 : decode cX7_restore 39 = .ok (.getfield 7, 3) := by decide +kernel
theorem dX7_restore_42 : decode cX7_restore 42 = .ok (.iload_n 2, 1) := by decide +kernel
theorem dX7_restore_43 : decode cX7_restore 43 = .ok (.aload_n 0, 1) := by decide +kernel
theorem dX7_restore_44 : decode cX7_restore 44 = .ok (.getfield 22, 3) := by decide +kernel
theorem dX7_restore_47 : decode cX7_restore 47 = .ok (.sipush 228, 3) := by decide +kernel
theorem dX7_restore_50 : decode cX7_restore 50 = .ok (.iload_n 1, 1) := by decide +kernel
theorem dX7_restore_51 : decode cX7_restore 51 = .ok (.imul, 1) := by decide +kernel
theorem dX7_restore_52 : decode cX7_restore 52 = .ok (.iload_n 2, 1) := by decide +kernel
theorem dX7_restore_53 : decode cX7_restore 53 = .ok (.iadd, 1) := by decide +kernel
theorem dX7_restore_54 : decode cX7_restore 54 = .ok (.iaload, 1) := by decide +kernel
theorem dX7_restore_55 : decode cX7_restore 55 = .ok (.iastore, 1) := by decide +kernel
theorem dX7_restore_56 : decode cX7_restore 56 = .ok (.iinc 2 1, 3) := by decide +kernel
theorem dX7_restore_59 : decode cX7_restore 59 = .ok (.goto (-28), 3) := by decide +kernel
theorem dX7_restore_62 : decode cX7_restore 62 = .ok (.aload_n 0, 1) := by decide +kernel
theorem dX7_restore_63 : decode cX7_restore 63 = .ok (.aload_n 0, 1) := by decide +kernel
theorem dX7_restore_64 : decode cX7_restore 64 = .ok (.getfield 7, 3) := by decide +kernel
theorem dX7_restore_67 : decode cX7_restore 67 = .ok (.iconst 3, 1) := by decide +kernel
theorem dX7_restore_68 : decode cX7_restore 68 = .ok (.iaload, 1) := by decide +kernel
theorem dX7_restore_69 : decode cX7_restore 69 = .ok (.invokevirtual 63, 3) := by decide +kernel
theorem dX7_restore_72 : decode cX7_restore 72 = .ok (.ireturn, 1) := by decide +kernel
theorem dX7_layAside_0 : decode cX7_layAside 0 = .ok (.iconst 0, 1) := by decide +kernel
theorem dX7_layAside_1 : decode cX7_layAside 1 = .ok (.istore_n 1, 1) := by decide +kernel
theorem dX7_layAside_2 : decode cX7_layAside 2 = .ok (.iload_n 1, 1) := by decide +kernel
theorem dX7_layAside_3 : decode cX7_layAside 3 = .ok (.sipush 228, 3) := by decide +kernel
theorem dX7_layAside_6 : decode cX7_layAside 6 = .ok (.if_icmp .ge 21, 3) := by decide +kernel
theorem dX7_layAside_9 : decode cX7_layAside 9 = .ok (.aload_n 0, 1) := by decide +kernel
theorem dX7_layAside_10 : decode cX7_layAside 10 = .ok (.getfield 19, 3) := by decide +kernel
theorem dX7_layAside_13 : decode cX7_layAside 13 = .ok (.iload_n 1, 1) := by decide +kernel
theorem dX7_layAside_14 : decode cX7_layAside 14 = .ok (.aload_n 0, 1) := by decide +kernel
theorem dX7_layAside_15 : decode cX7_layAside 15 = .ok (.getfield 7, 3) := by decide +kernel
theorem dX7_layAside_18 : decode cX7_layAside 18 = .ok (.iload_n 1, 1) := by decide +kernel
theorem dX7_layAside_19 : decode cX7_layAside 19 = .ok (.iaload, 1) := by decide +kernel
theorem dX7_layAside_20 : decode cX7_layAside 20 = .ok (.iastore, 1) := by decide +kernel
theorem dX7_layAside_21 : decode cX7_layAside 21 = .ok (.iinc 1 1, 3) := by decide +kernel
theorem dX7_layAside_24 : decode cX7_layAside 24 = .ok (.goto (-22), 3) := by decide +kernel
theorem dX7_layAside_27 : decode cX7_layAside 27 = .ok (.return_, 1) := by decide +kernel
theorem dX7_putBack_0 : decode cX7_putBack 0 = .ok (.iconst 0, 1) := by decide +kernel
theorem dX7_putBack_1 : decode cX7_putBack 1 = .ok (.istore_n 1, 1) := by decide +kernel
theorem dX7_putBack_2 : decode cX7_putBack 2 = .ok (.iload_n 1, 1) := by decide +kernel
theorem dX7_putBack_3 : decode cX7_putBack 3 = .ok (.sipush 228, 3) := by decide +kernel
theorem dX7_putBack_6 : decode cX7_putBack 6 = .ok (.if_icmp .ge 21, 3) := by decide +kernel
theorem dX7_putBack_9 : decode cX7_putBack 9 = .ok (.aload_n 0, 1) := by decide +kernel
theorem dX7_putBack_10 : decode cX7_putBack 10 = .ok (.getfield 7, 3) := by decide +kernel
theorem dX7_putBack_13 : decode cX7_putBack 13 = .ok (.iload_n 1, 1) := by decide +kernel
theorem dX7_putBack_14 : decode cX7_putBack 14 = .ok (.aload_n 0, 1) := by decide +kernel
theorem dX7_putBack_15 : decode cX7_putBack 15 = .ok (.getfield 19, 3) := by decide +kernel
theorem dX7_putBack_18 : decode cX7_putBack 18 = .ok (.iload_n 1, 1) := by decide +kernel
theorem dX7_putBack_19 : decode cX7_putBack 19 = .ok (.iaload, 1) := by decide +kernel
theorem dX7_putBack_20 : decode cX7_putBack 20 = .ok (.iastore, 1) := by decide +kernel
theorem dX7_putBack_21 : decode cX7_putBack 21 = .ok (.iinc 1 1, 3) := by decide +kernel
theorem dX7_putBack_24 : decode cX7_putBack 24 = .ok (.goto (-22), 3) := by decide +kernel
theorem dX7_putBack_27 : decode cX7_putBack 27 = .ok (.return_, 1) := by decide +kernel
theorem dX7_draw_0 : decode cX7_draw 0 = .ok (.bipush 75, 2) := by decide +kernel
theorem dX7_draw_2 : decode cX7_draw 2 = .ok (.iload_n 0, 1) := by decide +kernel
theorem dX7_draw_3 : decode cX7_draw 3 = .ok (.imul, 1) := by decide +kernel
theorem dX7_draw_4 : decode cX7_draw 4 = .ok (.bipush 74, 2) := by decide +kernel
theorem dX7_draw_6 : decode cX7_draw 6 = .ok (.iadd, 1) := by decide +kernel
theorem dX7_draw_7 : decode cX7_draw 7 = .ok (.ldc 67, 2) := by decide +kernel
theorem dX7_draw_9 : decode cX7_draw 9 = .ok (.irem, 1) := by decide +kernel
theorem dX7_draw_10 : decode cX7_draw 10 = .ok (.ireturn, 1) := by decide +kernel
theorem dX7_degreeBy_0 : decode cX7_degreeBy 0 = .ok (.aload_n 0, 1) := by decide +kernel
theorem dX7_degreeBy_1 : decode cX7_degreeBy 1 = .ok (.getfield 7, 3) := by decide +kernel
theorem dX7_degreeBy_4 : decode cX7_degreeBy 4 = .ok (.iconst 2, 1) := by decide +kernel
theorem dX7_degreeBy_5 : decode cX7_degreeBy 5 = .ok (.iaload, 1) := by decide +kernel
theorem dX7_degreeBy_6 : decode cX7_degreeBy 6 = .ok (.istore_n 2, 1) := by decide +kernel
theorem dX7_degreeBy_7 : decode cX7_degreeBy 7 = .ok (.aload_n 0, 1) := by decide +kernel
theorem dX7_degreeBy_8 : decode cX7_degreeBy 8 = .ok (.getfield 7, 3) := by decide +kernel
theorem dX7_degreeBy_11 : decode cX7_degreeBy 11 = .ok (.iconst 0, 1) := by decide +kernel
theorem dX7_degreeBy_12 : decode cX7_degreeBy 12 = .ok (.iaload, 1) := by decide +kernel
theorem dX7_degreeBy_13 : decode cX7_degreeBy 13 = .ok (.ifCond .ne 9, 3) := by decide +kernel
theorem dX7_degreeBy_16 : decode cX7_degreeBy 16 = .ok (.iconst 1, 1) := by decide +kernel
theorem dX7_degreeBy_17 : decode cX7_degreeBy 17 = .ok (.iload_n 1, 1) := by decide +kernel
theorem dX7_degreeBy_18 : decode cX7_degreeBy 18 = .ok (.iload_n 2, 1) := by decide +kernel
theorem dX7_degreeBy_19 : decode cX7_degreeBy 19 = .ok (.irem, 1) := by decide +kernel
theorem dX7_degreeBy_20 : decode cX7_degreeBy 20 = .ok (.iadd, 1) := by decide +kernel
theorem dX7_degreeBy_21 : decode cX7_degreeBy 21 = .ok (.ireturn, 1) := by decide +kernel
theorem dX7_degreeBy_22 : decode cX7_degreeBy 22 = .ok (.aload_n 0, 1) := by decide +kernel
theorem dX7_degreeBy_23 : decode cX7_degreeBy 23 = .ok (.getfield 7, 3) := by decide +kernel
theorem dX7_degreeBy_26 : decode cX7_degreeBy 26 = .ok (.iconst 0, 1) := by decide +kernel
theorem dX7_degreeBy_27 : decode cX7_degreeBy 27 = .ok (.iaload, 1) := by decide +kernel
theorem dX7_degreeBy_28 : decode cX7_degreeBy 28 = .ok (.iconst 2, 1) := by decide +kernel
theorem dX7_degreeBy_29 : decode cX7_degreeBy 29 = .ok (.if_icmp .ne 15, 3) := by decide +kernel
theorem dX7_degreeBy_32 : decode cX7_degreeBy 32 = .ok (.iload_n 1, 1) := by decide +kernel
theorem dX7_degreeBy_33 : decode cX7_degreeBy 33 = .ok (.iconst 4, 1) := by decide +kernel
theorem dX7_degreeBy_34 : decode cX7_degreeBy 34 = .ok (.irem, 1) := by decide +kernel
theorem dX7_degreeBy_35 : decode cX7_degreeBy 35 = .ok (.ifCond .ne 7, 3) := by decide +kernel
theorem dX7_degreeBy_38 : decode cX7_degreeBy 38 = .ok (.iconst 1, 1) := by decide +kernel
theorem dX7_degreeBy_39 : decode cX7_degreeBy 39 = .ok (.goto 4, 3) := by decide +kernel
theorem dX7_degreeBy_42 : decode cX7_degreeBy 42 = .ok (.iload_n 2, 1) := by decide +kernel
theorem dX7_degreeBy_43 : decode cX7_degreeBy 43 = .ok (.ireturn, 1) := by decide +kernel
theorem dX7_degreeBy_44 : decode cX7_degreeBy 44 = .ok (.iload_n 1, 1) := by decide +kernel
theorem dX7_degreeBy_45 : decode cX7_degreeBy 45 = .ok (.bipush 24, 2) := by decide +kernel
theorem dX7_degreeBy_47 : decode cX7_degreeBy 47 = .ok (.irem, 1) := by decide +kernel
theorem dX7_degreeBy_48 : decode cX7_degreeBy 48 = .ok (.istore_n 3, 1) := by decide +kernel
theorem dX7_degreeBy_49 : decode cX7_degreeBy 49 = .ok (.iload_n 3, 1) := by decide +kernel
theorem dX7_degreeBy_50 : decode cX7_degreeBy 50 = .ok (.iconst 4, 1) := by decide +kernel
theorem dX7_degreeBy_51 : decode cX7_degreeBy 51 = .ok (.if_icmp .ge 7, 3) := by decide +kernel
theorem dX7_degreeBy_54 : decode cX7_degreeBy 54 = .ok (.iconst 1, 1) := by decide +kernel
theorem dX7_degreeBy_55 : decode cX7_degreeBy 55 = .ok (.goto 24, 3) := by decide +kernel
theorem dX7_degreeBy_58 : decode cX7_degreeBy 58 = .ok (.iload_n 3, 1) := by decide +kernel
theorem dX7_degreeBy_59 : decode cX7_degreeBy 59 = .ok (.bipush 16, 2) := by decide +kernel
theorem dX7_degreeBy_61 : decode cX7_degreeBy 61 = .ok (.if_icmp .ge 7, 3) := by decide +kernel
theorem dX7_degreeBy_64 : decode cX7_degreeBy 64 = .ok (.iconst 2, 1) := by decide +kernel
theorem dX7_degreeBy_65 : decode cX7_degreeBy 65 = .ok (.goto 14, 3) := by decide +kernel
theorem dX7_degreeBy_68 : decode cX7_degreeBy 68 = .ok (.iload_n 3, 1) := by decide +kernel
theorem dX7_degreeBy_69 : decode cX7_degreeBy 69 = .ok (.bipush 20, 2) := by decide +kernel
theorem dX7_degreeBy_71 : decode cX7_degreeBy 71 = .ok (.if_icmp .ge 7, 3) := by decide +kernel
theorem dX7_degreeBy_74 : decode cX7_degreeBy 74 = .ok (.iconst 3, 1) := by decide +kernel
theorem dX7_degreeBy_75 : decode cX7_degreeBy 75 = .ok (.goto 4, 3) := by decide +kernel
theorem dX7_degreeBy_78 : decode cX7_degreeBy 78 = .ok (.iconst 4, 1) := by decide +kernel
theorem dX7_degreeBy_79 : decode cX7_degreeBy 79 = .ok (.istore 4, 2) := by decide +kernel
theorem dX7_degreeBy_81 : decode cX7_degreeBy 81 = .ok (.iload 4, 2) := by decide +kernel
theorem dX7_degreeBy_83 : decode cX7_degreeBy 83 = .ok (.iload_n 2, 1) := by decide +kernel
theorem dX7_degreeBy_84 : decode cX7_degreeBy 84 = .ok (.if_icmp .ge 8, 3) := by decide +kernel
theorem dX7_degreeBy_87 : decode cX7_degreeBy 87 = .ok (.iload 4, 2) := by decide +kernel
theorem dX7_degreeBy_89 : decode cX7_degreeBy 89 = .ok (.goto 4, 3) := by decide +kernel
theorem dX7_degreeBy_92 : decode cX7_degreeBy 92 = .ok (.iload_n 2, 1) := by decide +kernel
theorem dX7_degreeBy_93 : decode cX7_degreeBy 93 = .ok (.ireturn, 1) := by decide +kernel
theorem dX7_make_0 : decode cX7_make 0 = .ok (.aload_n 0, 1) := by decide +kernel
theorem dX7_make_1 : decode cX7_make 1 = .ok (.getfield 7, 3) := by decide +kernel
theorem dX7_make_4 : decode cX7_make 4 = .ok (.iconst 2, 1) := by decide +kernel
theorem dX7_make_5 : decode cX7_make 5 = .ok (.iaload, 1) := by decide +kernel
theorem dX7_make_6 : decode cX7_make 6 = .ok (.istore_n 2, 1) := by decide +kernel
theorem dX7_make_7 : decode cX7_make 7 = .ok (.iload_n 1, 1) := by decide +kernel
theorem dX7_make_8 : decode cX7_make 8 = .ok (.invokestatic 68, 3) := by decide +kernel
theorem dX7_make_11 : decode cX7_make 11 = .ok (.istore_n 3, 1) := by decide +kernel
theorem dX7_make_12 : decode cX7_make 12 = .ok (.aload_n 0, 1) := by decide +kernel
theorem dX7_make_13 : decode cX7_make 13 = .ok (.iload_n 3, 1) := by decide +kernel
theorem dX7_make_14 : decode cX7_make 14 = .ok (.bipush 100, 2) := by decide +kernel
theorem dX7_make_16 : decode cX7_make 16 = .ok (.irem, 1) := by decide +kernel
theorem dX7_make_17 : decode cX7_make 17 = .ok (.aload_n 0, 1) := by decide +kernel
theorem dX7_make_18 : decode cX7_make 18 = .ok (.getfield 7, 3) := by decide +kernel
theorem dX7_make_21 : decode cX7_make 21 = .ok (.iconst 1, 1) := by decide +kernel
theorem dX7_make_22 : decode cX7_make 22 = .ok (.iaload, 1) := by decide +kernel
theorem dX7_make_23 : decode cX7_make 23 = .ok (.if_icmp .ge 7, 3) := by decide +kernel
theorem dX7_make_26 : decode cX7_make 26 = .ok (.iconst 1, 1) := by decide +kernel
theorem dX7_make_27 : decode cX7_make 27 = .ok (.goto 4, 3) := by decide +kernel
theorem dX7_make_30 : decode cX7_make 30 = .ok (.iconst 0, 1) := by decide +kernel
theorem dX7_make_31 : decode cX7_make 31 = .ok (.putfield 71, 3) := by decide +kernel
theorem dX7_make_34 : decode cX7_make 34 = .ok (.iload_n 3, 1) := by decide +kernel
theorem dX7_make_35 : decode cX7_make 35 = .ok (.invokestatic 68, 3) := by decide +kernel
theorem dX7_make_38 : decode cX7_make 38 = .ok (.istore_n 3, 1) := by decide +kernel
theorem dX7_make_39 : decode cX7_make 39 = .ok (.aload_n 0, 1) := by decide +kernel
theorem dX7_make_40 : decode cX7_make 40 = .ok (.aload_n 0, 1) := by decide +kernel
theorem dX7_make_41 : decode cX7_make 41 = .ok (.iload_n 3, 1) := by decide +kernel
theorem dX7_make_42 : decode cX7_make 42 = .ok (.invokevirtual 75, 3) := by decide +kernel
theorem dX7_make_45 : decode cX7_make 45 = .ok (.putfield 78, 3) := by decide +kernel
theorem dX7_make_48 : decode cX7_make 48 = .ok (.aload_n 0, 1) := by decide +kernel
theorem dX7_make_49 : decode cX7_make 49 = .ok (.iconst 0, 1) := by decide +kernel
theorem dX7_make_50 : decode cX7_make 50 = .ok (.putfield 81, 3) := by decide +kernel
theorem dX7_make_53 : decode cX7_make 53 = .ok (.aload_n 0, 1) := by decide +kernel
theorem dX7_make_54 : decode cX7_make 54 = .ok (.iconst 0, 1) := by decide +kernel
theorem dX7_make_55 : decode cX7_make 55 = .ok (.putfield 84, 3) := by decide +kernel
theorem dX7_make_58 : decode cX7_make 58 = .ok (.iconst 0, 1) := by decide +kernel
theorem dX7_make_59 : decode cX7_make 59 = .ok (.istore 4, 2) := by decide +kernel
theorem dX7_make_61 : decode cX7_make 61 = .ok (.iload 4, 2) := by decide +kernel
theorem dX7_make_63 : decode cX7_make 63 = .ok (.aload_n 0, 1) := by decide +kernel
theorem dX7_make_64 : decode cX7_make 64 = .ok (.getfield 78, 3) := by decide +kernel
theorem dX7_make_67 : decode cX7_make 67 = .ok (.if_icmp .ge 84, 3) := by decide +kernel
theorem dX7_make_70 : decode cX7_make 70 = .ok (.iload_n 3, 1) := by decide +kernel
theorem dX7_make_71 : decode cX7_make 71 = .ok (.invokestatic 68, 3) := by decide +kernel
theorem dX7_make_74 : decode cX7_make 74 = .ok (.istore_n 3, 1) := by decide +kernel
theorem dX7_make_75 : decode cX7_make 75 = .ok (.iload_n 3, 1) := by decide +kernel
theorem dX7_make_76 : decode cX7_make 76 = .ok (.iload_n 2, 1) := by decide +kernel
theorem dX7_make_77 : decode cX7_make 77 = .ok (.irem, 1) := by decide +kernel
theorem dX7_make_78 : decode cX7_make 78 = .ok (.istore 5, 2) := by decide +kernel
theorem dX7_make_80 : decode cX7_make 80 = .ok (.aload_n 0, 1) := by decide +kernel
theorem dX7_make_81 : decode cX7_make 81 = .ok (.getfield 81, 3) := by decide +kernel
theorem dX7_make_84 : decode cX7_make 84 = .ok (.iload 5, 2) := by decide +kernel
theorem dX7_make_86 : decode cX7_make 86 = .ok (.ishr, 1) := by decide +kernel
theorem dX7_make_87 : decode cX7_make 87 = .ok (.iconst 1, 1) := by decide +kernel
theorem dX7_make_88 : decode cX7_make 88 = .ok (.iand, 1) := by decide +kernel
theorem dX7_make_89 : decode cX7_make 89 = .ok (.iconst 1, 1) := by decide +kernel
theorem dX7_make_90 : decode cX7_make 90 = .ok (.if_icmp .ne 24, 3) := by decide +kernel
theorem dX7_make_93 : decode cX7_make 93 = .ok (.iload 5, 2) := by decide +kernel
theorem dX7_make_95 : decode cX7_make 95 = .ok (.iconst 1, 1) := by decide +kernel
theorem dX7_make_96 : decode cX7_make 96 = .ok (.iadd, 1) := by decide +kernel
theorem dX7_make_97 : decode cX7_make 97 = .ok (.iload_n 2, 1) := by decide +kernel
theorem dX7_make_98 : decode cX7_make 98 = .ok (.if_icmp .ne 7, 3) := by decide +kernel
theorem dX7_make_101 : decode cX7_make 101 = .ok (.iconst 0, 1) := by decide +kernel
theorem dX7_make_102 : decode cX7_make 102 = .ok (.goto 7, 3) := by decide +kernel
theorem dX7_make_105 : decode cX7_make 105 = .ok (.iload 5, 2) := by decide +kernel
theorem dX7_make_107 : decode cX7_make 107 = .ok (.iconst 1, 1) := by decide +kernel
theorem dX7_make_108 : decode cX7_make 108 = .ok (.iadd, 1) := by decide +kernel
theorem dX7_make_109 : decode cX7_make 109 = .ok (.istore 5, 2) := by decide +kernel
theorem dX7_make_111 : decode cX7_make 111 = .ok (.goto (-31), 3) := by decide +kernel
theorem dX7_make_114 : decode cX7_make 114 = .ok (.aload_n 0, 1) := by decide +kernel
theorem dX7_make_115 : decode cX7_make 115 = .ok (.dup, 1) := by decide +kernel
theorem dX7_make_116 : decode cX7_make 116 = .ok (.getfield 81, 3) := by decide +kernel
theorem dX7_make_119 : decode cX7_make 119 = .ok (.iconst 1, 1) := by decide +kernel
theorem dX7_make_120 : decode cX7_make 120 = .ok (.iload 5, 2) := by decide +kernel
theorem dX7_make_122 : decode cX7_make 122 = .ok (.ishl, 1) := by decide +kernel
theorem dX7_make_123 : decode cX7_make 123 = .ok (.ior, 1) := by decide +kernel
theorem dX7_make_124 : decode cX7_make 124 = .ok (.putfield 81, 3) := by decide +kernel
theorem dX7_make_127 : decode cX7_make 127 = .ok (.aload_n 0, 1) := by decide +kernel
theorem dX7_make_128 : decode cX7_make 128 = .ok (.dup, 1) := by decide +kernel
theorem dX7_make_129 : decode cX7_make 129 = .ok (.getfield 84, 3) := by decide +kernel
theorem dX7_make_132 : decode cX7_make 132 = .ok (.aload_n 0, 1) := by decide +kernel
theorem dX7_make_133 : decode cX7_make 133 = .ok (.getfield 7, 3) := by decide +kernel
theorem dX7_make_136 : decode cX7_make 136 = .ok (.iconst 5, 1) := by decide +kernel
theorem dX7_make_137 : decode cX7_make 137 = .ok (.iload 5, 2) := by decide +kernel
theorem dX7_make_139 : decode cX7_make 139 = .ok (.iadd, 1) := by decide +kernel
theorem dX7_make_140 : decode cX7_make 140 = .ok (.iaload, 1) := by decide +kernel
theorem dX7_make_141 : decode cX7_make 141 = .ok (.ixor, 1) := by decide +kernel
theorem dX7_make_142 : decode cX7_make 142 = .ok (.putfield 84, 3) := by decide +kernel
theorem dX7_make_145 : decode cX7_make 145 = .ok (.iinc 4 1, 3) := by decide +kernel
theorem dX7_make_148 : decode cX7_make 148 = .ok (.goto (-87), 3) := by decide +kernel
theorem dX7_make_151 : decode cX7_make 151 = .ok (.return_, 1) := by decide +kernel
theorem dX7_lowest_0 : decode cX7_lowest 0 = .ok (.iconst 0, 1) := by decide +kernel
theorem dX7_lowest_1 : decode cX7_lowest 1 = .ok (.istore_n 1, 1) := by decide +kernel
theorem dX7_lowest_2 : decode cX7_lowest 2 = .ok (.iload_n 1, 1) := by decide +kernel
theorem dX7_lowest_3 : decode cX7_lowest 3 = .ok (.bipush 16, 2) := by decide +kernel
theorem dX7_lowest_5 : decode cX7_lowest 5 = .ok (.if_icmp .ge 17, 3) := by decide +kernel
theorem dX7_lowest_8 : decode cX7_lowest 8 = .ok (.iload_n 0, 1) := by decide +kernel
theorem dX7_lowest_9 : decode cX7_lowest 9 = .ok (.iload_n 1, 1) := by decide +kernel
theorem dX7_lowest_10 : decode cX7_lowest 10 = .ok (.ishr, 1) := by decide +kernel
theorem dX7_lowest_11 : decode cX7_lowest 11 = .ok (.iconst 1, 1) := by decide +kernel
theorem dX7_lowest_12 : decode cX7_lowest 12 = .ok (.iand, 1) := by decide +kernel
theorem dX7_lowest_13 : decode cX7_lowest 13 = .ok (.ifCond .ne 9, 3) := by decide +kernel
theorem dX7_lowest_16 : decode cX7_lowest 16 = .ok (.iinc 1 1, 3) := by decide +kernel
theorem dX7_lowest_19 : decode cX7_lowest 19 = .ok (.goto (-17), 3) := by decide +kernel
theorem dX7_lowest_22 : decode cX7_lowest 22 = .ok (.iload_n 1, 1) := by decide +kernel
theorem dX7_lowest_23 : decode cX7_lowest 23 = .ok (.ireturn, 1) := by decide +kernel
theorem dX7_takeAway_0 : decode cX7_takeAway 0 = .ok (.aload_n 0, 1) := by decide +kernel
theorem dX7_takeAway_1 : decode cX7_takeAway 1 = .ok (.iload_n 1, 1) := by decide +kernel
theorem dX7_takeAway_2 : decode cX7_takeAway 2 = .ok (.iconst 1, 1) := by decide +kernel
theorem dX7_takeAway_3 : decode cX7_takeAway 3 = .ok (.invokevirtual 48, 3) := by decide +kernel
theorem dX7_takeAway_6 : decode cX7_takeAway 6 = .ok (.iconst 1, 1) := by decide +kernel
theorem dX7_takeAway_7 : decode cX7_takeAway 7 = .ok (.isub, 1) := by decide +kernel
theorem dX7_takeAway_8 : decode cX7_takeAway 8 = .ok (.istore_n 3, 1) := by decide +kernel
theorem dX7_takeAway_9 : decode cX7_takeAway 9 = .ok (.iload_n 2, 1) := by decide +kernel
theorem dX7_takeAway_10 : decode cX7_takeAway 10 = .ok (.istore 4, 2) := by decide +kernel
theorem dX7_takeAway_12 : decode cX7_takeAway 12 = .ok (.iload 4, 2) := by decide +kernel
theorem dX7_takeAway_14 : decode cX7_takeAway 14 = .ok (.iload_n 3, 1) := by decide +kernel
theorem dX7_takeAway_15 : decode cX7_takeAway 15 = .ok (.if_icmp .ge 53, 3) := by decide +kernel
theorem dX7_takeAway_18 : decode cX7_takeAway 18 = .ok (.aload_n 0, 1) := by decide +kernel
theorem dX7_takeAway_19 : decode cX7_takeAway 19 = .ok (.iload_n 1, 1) := by decide +kernel
theorem dX7_takeAway_20 : decode cX7_takeAway 20 = .ok (.bipush 21, 2) := by decide +kernel
theorem dX7_takeAway_22 : decode cX7_takeAway 22 = .ok (.iload 4, 2) := by decide +kernel
theorem dX7_takeAway_24 : decode cX7_takeAway 24 = .ok (.iadd, 1) := by decide +kernel
theorem dX7_takeAway_25 : decode cX7_takeAway 25 = .ok (.aload_n 0, 1) := by decide +kernel
theorem dX7_takeAway_26 : decode cX7_takeAway 26 = .ok (.iload_n 1, 1) := by decide +kernel
theorem dX7_takeAway_27 : decode cX7_takeAway 27 = .ok (.bipush 21, 2) := by decide +kernel
theorem dX7_takeAway_29 : decode cX7_takeAway 29 = .ok (.iload 4, 2) := by decide +kernel
theorem dX7_takeAway_31 : decode cX7_takeAway 31 = .ok (.iadd, 1) := by decide +kernel
theorem dX7_takeAway_32 : decode cX7_takeAway 32 = .ok (.iconst 1, 1) := by decide +kernel
theorem dX7_takeAway_33 : decode cX7_takeAway 33 = .ok (.iadd, 1) := by decide +kernel
theorem dX7_takeAway_34 : decode cX7_takeAway 34 = .ok (.invokevirtual 48, 3) := by decide +kernel
theorem dX7_takeAway_37 : decode cX7_takeAway 37 = .ok (.invokevirtual 87, 3) := by decide +kernel
theorem dX7_takeAway_40 : decode cX7_takeAway 40 = .ok (.aload_n 0, 1) := by decide +kernel
theorem dX7_takeAway_41 : decode cX7_takeAway 41 = .ok (.iload_n 1, 1) := by decide +kernel
theorem dX7_takeAway_42 : decode cX7_takeAway 42 = .ok (.bipush 45, 2) := by decide +kernel
theorem dX7_takeAway_44 : decode cX7_takeAway 44 = .ok (.iload 4, 2) := by decide +kernel
theorem dX7_takeAway_46 : decode cX7_takeAway 46 = .ok (.iadd, 1) := by decide +kernel
theorem dX7_takeAway_47 : decode cX7_takeAway 47 = .ok (.aload_n 0, 1) := by decide +kernel
theorem dX7_takeAway_48 : decode cX7_takeAway 48 = .ok (.iload_n 1, 1) := by decide +kernel
theorem dX7_takeAway_49 : decode cX7_takeAway 49 = .ok (.bipush 45, 2) := by decide +kernel
theorem dX7_takeAway_51 : decode cX7_takeAway 51 = .ok (.iload 4, 2) := by decide +kernel
theorem dX7_takeAway_53 : decode cX7_takeAway 53 = .ok (.iadd, 1) := by decide +kernel
theorem dX7_takeAway_54 : decode cX7_takeAway 54 = .ok (.iconst 1, 1) := by decide +kernel
theorem dX7_takeAway_55 : decode cX7_takeAway 55 = .ok (.iadd, 1) := by decide +kernel
theorem dX7_takeAway_56 : decode cX7_takeAway 56 = .ok (.invokevirtual 48, 3) := by decide +kernel
theorem dX7_takeAway_59 : decode cX7_takeAway 59 = .ok (.invokevirtual 87, 3) := by decide +kernel
theorem dX7_takeAway_62 : decode cX7_takeAway 62 = .ok (.iinc 4 1, 3) := by decide +kernel
theorem dX7_takeAway_65 : decode cX7_takeAway 65 = .ok (.goto (-53), 3) := by decide +kernel
theorem dX7_takeAway_68 : decode cX7_takeAway 68 = .ok (.aload_n 0, 1) := by decide +kernel
theorem dX7_takeAway_69 : decode cX7_takeAway 69 = .ok (.iload_n 1, 1) := by decide +kernel
theorem dX7_takeAway_70 : decode cX7_takeAway 70 = .ok (.bipush 21, 2) := by decide +kernel
theorem dX7_takeAway_72 : decode cX7_takeAway 72 = .ok (.iload_n 3, 1) := by decide +kernel
theorem dX7_takeAway_73 : decode cX7_takeAway 73 = .ok (.iadd, 1) := by decide +kernel
theorem dX7_takeAway_74 : decode cX7_takeAway 74 = .ok (.iconst 0, 1) := by decide +kernel
theorem dX7_takeAway_75 : decode cX7_takeAway 75 = .ok (.invokevirtual 87, 3) := by decide +kernel
theorem dX7_takeAway_78 : decode cX7_takeAway 78 = .ok (.aload_n 0, 1) := by decide +kernel
theorem dX7_takeAway_79 : decode cX7_takeAway 79 = .ok (.iload_n 1, 1) := by decide +kernel
theorem dX7_takeAway_80 : decode cX7_takeAway 80 = .ok (.bipush 45, 2) := by decide +kernel
theorem dX7_takeAway_82 : decode cX7_takeAway 82 = .ok (.iload_n 3, 1) := by decide +kernel
theorem dX7_takeAway_83 : decode cX7_takeAway 83 = .ok (.iadd, 1) := by decide +kernel
theorem dX7_takeAway_84 : decode cX7_takeAway 84 = .ok (.iconst 0, 1) := by decide +kernel
theorem dX7_takeAway_85 : decode cX7_takeAway 85 = .ok (.invokevirtual 87, 3) := by decide +kernel
theorem dX7_takeAway_88 : decode cX7_takeAway 88 = .ok (.aload_n 0, 1) := by decide +kernel
theorem dX7_takeAway_89 : decode cX7_takeAway 89 = .ok (.iload_n 1, 1) := by decide +kernel
theorem dX7_takeAway_90 : decode cX7_takeAway 90 = .ok (.iconst 1, 1) := by decide +kernel
theorem dX7_takeAway_91 : decode cX7_takeAway 91 = .ok (.iload_n 3, 1) := by decide +kernel
theorem dX7_takeAway_92 : decode cX7_takeAway 92 = .ok (.invokevirtual 87, 3) := by decide +kernel
theorem dX7_takeAway_95 : decode cX7_takeAway 95 = .ok (.return_, 1) := by decide +kernel
theorem dX7_knows_0 : decode cX7_knows 0 = .ok (.aload_n 0, 1) := by decide +kernel
theorem dX7_knows_1 : decode cX7_knows 1 = .ok (.iload_n 1, 1) := by decide +kernel
theorem dX7_knows_2 : decode cX7_knows 2 = .ok (.iconst 0, 1) := by decide +kernel
theorem dX7_knows_3 : decode cX7_knows 3 = .ok (.aload_n 0, 1) := by decide +kernel
theorem dX7_knows_4 : decode cX7_knows 4 = .ok (.iload_n 1, 1) := by decide +kernel
theorem dX7_knows_5 : decode cX7_knows 5 = .ok (.iconst 0, 1) := by decide +kernel
theorem dX7_knows_6 : decode cX7_knows 6 = .ok (.invokevirtual 48, 3) := by decide +kernel
theorem dX7_knows_9 : decode cX7_knows 9 = .ok (.iconst 1, 1) := by decide +kernel
theorem dX7_knows_10 : decode cX7_knows 10 = .ok (.iload_n 2, 1) := by decide +kernel
theorem dX7_knows_11 : decode cX7_knows 11 = .ok (.ishl, 1) := by decide +kernel
theorem dX7_knows_12 : decode cX7_knows 12 = .ok (.ior, 1) := by decide +kernel
theorem dX7_knows_13 : decode cX7_knows 13 = .ok (.invokevirtual 87, 3) := by decide +kernel
theorem dX7_knows_16 : decode cX7_knows 16 = .ok (.aload_n 0, 1) := by decide +kernel
theorem dX7_knows_17 : decode cX7_knows 17 = .ok (.iload_n 1, 1) := by decide +kernel
theorem dX7_knows_18 : decode cX7_knows 18 = .ok (.iconst 5, 1) := by decide +kernel
theorem dX7_knows_19 : decode cX7_knows 19 = .ok (.iload_n 2, 1) := by decide +kernel
theorem dX7_knows_20 : decode cX7_knows 20 = .ok (.iadd, 1) := by decide +kernel
theorem dX7_knows_21 : decode cX7_knows 21 = .ok (.iload_n 3, 1) := by decide +kernel
theorem dX7_knows_22 : decode cX7_knows 22 = .ok (.invokevirtual 87, 3) := by decide +kernel
theorem dX7_knows_25 : decode cX7_knows 25 = .ok (.iconst 0, 1) := by decide +kernel
theorem dX7_knows_26 : decode cX7_knows 26 = .ok (.istore 4, 2) := by decide +kernel
theorem dX7_knows_28 : decode cX7_knows 28 = .ok (.iload 4, 2) := by decide +kernel
theorem dX7_knows_30 : decode cX7_knows 30 = .ok (.aload_n 0, 1) := by decide +kernel
theorem dX7_knows_31 : decode cX7_knows 31 = .ok (.iload_n 1, 1) := by decide +kernel
theorem dX7_knows_32 : decode cX7_knows 32 = .ok (.iconst 1, 1) := by decide +kernel
theorem dX7_knows_33 : decode cX7_knows 33 = .ok (.invokevirtual 48, 3) := by decide +kernel
theorem dX7_knows_36 : decode cX7_knows 36 = .ok (.if_icmp .ge 75, 3) := by decide +kernel
theorem dX7_knows_39 : decode cX7_knows 39 = .ok (.aload_n 0, 1) := by decide +kernel
theorem dX7_knows_40 : decode cX7_knows 40 = .ok (.iload_n 1, 1) := by decide +kernel
theorem dX7_knows_41 : decode cX7_knows 41 = .ok (.bipush 21, 2) := by decide +kernel
theorem dX7_knows_43 : decode cX7_knows 43 = .ok (.iload 4, 2) := by decide +kernel
theorem dX7_knows_45 : decode cX7_knows 45 = .ok (.iadd, 1) := by decide +kernel
theorem dX7_knows_46 : decode cX7_knows 46 = .ok (.invokevirtual 48, 3) := by decide +kernel
theorem dX7_knows_49 : decode cX7_knows 49 = .ok (.iload_n 2, 1) := by decide +kernel
theorem dX7_knows_50 : decode cX7_knows 50 = .ok (.ishr, 1) := by decide +kernel
theorem dX7_knows_51 : decode cX7_knows 51 = .ok (.iconst 1, 1) := by decide +kernel
theorem dX7_knows_52 : decode cX7_knows 52 = .ok (.iand, 1) := by decide +kernel
theorem dX7_knows_53 : decode cX7_knows 53 = .ok (.iconst 1, 1) := by decide +kernel
theorem dX7_knows_54 : decode cX7_knows 54 = .ok (.if_icmp .ne 51, 3) := by decide +kernel
theorem dX7_knows_57 : decode cX7_knows 57 = .ok (.aload_n 0, 1) := by decide +kernel
theorem dX7_knows_58 : decode cX7_knows 58 = .ok (.iload_n 1, 1) := by decide +kernel
theorem dX7_knows_59 : decode cX7_knows 59 = .ok (.bipush 21, 2) := by decide +kernel
theorem dX7_knows_61 : decode cX7_knows 61 = .ok (.iload 4, 2) := by decide +kernel
theorem dX7_knows_63 : decode cX7_knows 63 = .ok (.iadd, 1) := by decide +kernel
theorem dX7_knows_64 : decode cX7_knows 64 = .ok (.aload_n 0, 1) := by decide +kernel
theorem dX7_knows_65 : decode cX7_knows 65 = .ok (.iload_n 1, 1) := by decide +kernel
theorem dX7_knows_66 : decode cX7_knows 66 = .ok (.bipush 21, 2) := by decide +kernel
theorem dX7_knows_68 : decode cX7_knows 68 = .ok (.iload 4, 2) := by decide +kernel
theorem dX7_knows_70 : decode cX7_knows 70 = .ok (.iadd, 1) := by decide +kernel
theorem dX7_knows_71 : decode cX7_knows 71 = .ok (.invokevirtual 48, 3) := by decide +kernel
theorem dX7_knows_74 : decode cX7_knows 74 = .ok (.iconst 1, 1) := by decide +kernel
theorem dX7_knows_75 : decode cX7_knows 75 = .ok (.iload_n 2, 1) := by decide +kernel
theorem dX7_knows_76 : decode cX7_knows 76 = .ok (.ishl, 1) := by decide +kernel
theorem dX7_knows_77 : decode cX7_knows 77 = .ok (.iconst (-1), 1) := by decide +kernel
theorem dX7_knows_78 : decode cX7_knows 78 = .ok (.ixor, 1) := by decide +kernel
theorem dX7_knows_79 : decode cX7_knows 79 = .ok (.iand, 1) := by decide +kernel
theorem dX7_knows_80 : decode cX7_knows 80 = .ok (.invokevirtual 87, 3) := by decide +kernel
theorem dX7_knows_83 : decode cX7_knows 83 = .ok (.aload_n 0, 1) := by decide +kernel
theorem dX7_knows_84 : decode cX7_knows 84 = .ok (.iload_n 1, 1) := by decide +kernel
theorem dX7_knows_85 : decode cX7_knows 85 = .ok (.bipush 45, 2) := by decide +kernel
theorem dX7_knows_87 : decode cX7_knows 87 = .ok (.iload 4, 2) := by decide +kernel
theorem dX7_knows_89 : decode cX7_knows 89 = .ok (.iadd, 1) := by decide +kernel
theorem dX7_knows_90 : decode cX7_knows 90 = .ok (.aload_n 0, 1) := by decide +kernel
theorem dX7_knows_91 : decode cX7_knows 91 = .ok (.iload_n 1, 1) := by decide +kernel
theorem dX7_knows_92 : decode cX7_knows 92 = .ok (.bipush 45, 2) := by decide +kernel
theorem dX7_knows_94 : decode cX7_knows 94 = .ok (.iload 4, 2) := by decide +kernel
theorem dX7_knows_96 : decode cX7_knows 96 = .ok (.iadd, 1) := by decide +kernel
theorem dX7_knows_97 : decode cX7_knows 97 = .ok (.invokevirtual 48, 3) := by decide +kernel
theorem dX7_knows_100 : decode cX7_knows 100 = .ok (.iload_n 3, 1) := by decide +kernel
theorem dX7_knows_101 : decode cX7_knows 101 = .ok (.ixor, 1) := by decide +kernel
theorem dX7_knows_102 : decode cX7_knows 102 = .ok (.invokevirtual 87, 3) := by decide +kernel
theorem dX7_knows_105 : decode cX7_knows 105 = .ok (.iinc 4 1, 3) := by decide +kernel
theorem dX7_knows_108 : decode cX7_knows 108 = .ok (.goto (-80), 3) := by decide +kernel
theorem dX7_knows_111 : decode cX7_knows 111 = .ok (.return_, 1) := by decide +kernel
theorem dX7_firstSmall_0 : decode cX7_firstSmall 0 = .ok (.iconst 0, 1) := by decide +kernel
theorem dX7_firstSmall_1 : decode cX7_firstSmall 1 = .ok (.istore_n 2, 1) := by decide +kernel
theorem dX7_firstSmall_2 : decode cX7_firstSmall 2 = .ok (.iload_n 2, 1) := by decide +kernel
theorem dX7_firstSmall_3 : decode cX7_firstSmall 3 = .ok (.aload_n 0, 1) := by decide +kernel
theorem dX7_firstSmall_4 : decode cX7_firstSmall 4 = .ok (.iload_n 1, 1) := by decide +kernel
theorem dX7_firstSmall_5 : decode cX7_firstSmall 5 = .ok (.iconst 1, 1) := by decide +kernel
theorem dX7_firstSmall_6 : decode cX7_firstSmall 6 = .ok (.invokevirtual 48, 3) := by decide +kernel
theorem dX7_firstSmall_9 : decode cX7_firstSmall 9 = .ok (.if_icmp .ge 27, 3) := by decide +kernel
theorem dX7_firstSmall_12 : decode cX7_firstSmall 12 = .ok (.aload_n 0, 1) := by decide +kernel
theorem dX7_firstSmall_13 : decode cX7_firstSmall 13 = .ok (.iload_n 1, 1) := by decide +kernel
theorem dX7_firstSmall_14 : decode cX7_firstSmall 14 = .ok (.bipush 21, 2) := by decide +kernel
theorem dX7_firstSmall_16 : decode cX7_firstSmall 16 = .ok (.iload_n 2, 1) := by decide +kernel
theorem dX7_firstSmall_17 : decode cX7_firstSmall 17 = .ok (.iadd, 1) := by decide +kernel
theorem dX7_firstSmall_18 : decode cX7_firstSmall 18 = .ok (.invokevirtual 48, 3) := by decide +kernel
theorem dX7_firstSmall_21 : decode cX7_firstSmall 21 = .ok (.invokestatic 91, 3) := by decide +kernel
theorem dX7_firstSmall_24 : decode cX7_firstSmall 24 = .ok (.iconst 2, 1) := by decide +kernel
theorem dX7_firstSmall_25 : decode cX7_firstSmall 25 = .ok (.if_icmp .ge 5, 3) := by decide +kernel
theorem dX7_firstSmall_28 : decode cX7_firstSmall 28 = .ok (.iload_n 2, 1) := by decide +kernel
theorem dX7_firstSmall_29 : decode cX7_firstSmall 29 = .ok (.ireturn, 1) := by decide +kernel
theorem dX7_firstSmall_30 : decode cX7_firstSmall 30 = .ok (.iinc 2 1, 3) := by decide +kernel
theorem dX7_firstSmall_33 : decode cX7_firstSmall 33 = .ok (.goto (-31), 3) := by decide +kernel
theorem dX7_firstSmall_36 : decode cX7_firstSmall 36 = .ok (.bipush (-6), 2) := by decide +kernel
theorem dX7_firstSmall_38 : decode cX7_firstSmall 38 = .ok (.ireturn, 1) := by decide +kernel
theorem dX7_peel_0 : decode cX7_peel 0 = .ok (.iconst 0, 1) := by decide +kernel
theorem dX7_peel_1 : decode cX7_peel 1 = .ok (.istore_n 2, 1) := by decide +kernel
theorem dX7_peel_2 : decode cX7_peel 2 = .ok (.aload_n 0, 1) := by decide +kernel
theorem dX7_peel_3 : decode cX7_peel 3 = .ok (.iload_n 1, 1) := by decide +kernel
theorem dX7_peel_4 : decode cX7_peel 4 = .ok (.invokevirtual 94, 3) := by decide +kernel
theorem dX7_peel_7 : decode cX7_peel 7 = .ok (.istore_n 3, 1) := by decide +kernel
theorem dX7_peel_8 : decode cX7_peel 8 = .ok (.iload_n 3, 1) := by decide +kernel
theorem dX7_peel_9 : decode cX7_peel 9 = .ok (.bipush (-6), 2) := by decide +kernel
theorem dX7_peel_11 : decode cX7_peel 11 = .ok (.if_icmp .eq 60, 3) := by decide +kernel
theorem dX7_peel_14 : decode cX7_peel 14 = .ok (.aload_n 0, 1) := by decide +kernel
theorem dX7_peel_15 : decode cX7_peel 15 = .ok (.iload_n 1, 1) := by decide +kernel
theorem dX7_peel_16 : decode cX7_peel 16 = .ok (.bipush 21, 2) := by decide +kernel
theorem dX7_peel_18 : decode cX7_peel 18 = .ok (.iload_n 3, 1) := by decide +kernel
theorem dX7_peel_19 : decode cX7_peel 19 = .ok (.iadd, 1) := by decide +kernel
theorem dX7_peel_20 : decode cX7_peel 20 = .ok (.invokevirtual 48, 3) := by decide +kernel
theorem dX7_peel_23 : decode cX7_peel 23 = .ok (.istore 4, 2) := by decide +kernel
theorem dX7_peel_25 : decode cX7_peel 25 = .ok (.aload_n 0, 1) := by decide +kernel
theorem dX7_peel_26 : decode cX7_peel 26 = .ok (.iload_n 1, 1) := by decide +kernel
theorem dX7_peel_27 : decode cX7_peel 27 = .ok (.bipush 45, 2) := by decide +kernel
theorem dX7_peel_29 : decode cX7_peel 29 = .ok (.iload_n 3, 1) := by decide +kernel
theorem dX7_peel_30 : decode cX7_peel 30 = .ok (.iadd, 1) := by decide +kernel
theorem dX7_peel_31 : decode cX7_peel 31 = .ok (.invokevirtual 48, 3) := by decide +kernel
theorem dX7_peel_34 : decode cX7_peel 34 = .ok (.istore 5, 2) := by decide +kernel
theorem dX7_peel_36 : decode cX7_peel 36 = .ok (.aload_n 0, 1) := by decide +kernel
theorem dX7_peel_37 : decode cX7_peel 37 = .ok (.iload_n 1, 1) := by decide +kernel
theorem dX7_peel_38 : decode cX7_peel 38 = .ok (.iload_n 3, 1) := by decide +kernel
theorem dX7_peel_39 : decode cX7_peel 39 = .ok (.invokevirtual 97, 3) := by decide +kernel
theorem dX7_peel_42 : decode cX7_peel 42 = .ok (.iload 4, 2) := by decide +kernel
theorem dX7_peel_44 : decode cX7_peel 44 = .ok (.ifCond .eq 18, 3) := by decide +kernel
theorem dX7_peel_47 : decode cX7_peel 47 = .ok (.aload_n 0, 1) := by decide +kernel
theorem dX7_peel_48 : decode cX7_peel 48 = .ok (.iload_n 1, 1) := by decide +kernel
theorem dX7_peel_49 : decode cX7_peel 49 = .ok (.iload 4, 2) := by decide +kernel
theorem dX7_peel_51 : decode cX7_peel 51 = .ok (.invokestatic 101, 3) := by decide +kernel
theorem dX7_peel_54 : decode cX7_peel 54 = .ok (.iload 5, 2) := by decide +kernel
theorem dX7_peel_56 : decode cX7_peel 56 = .ok (.invokevirtual 104, 3) := by decide +kernel
theorem dX7_peel_59 : decode cX7_peel 59 = .ok (.iinc 2 1, 3) := by decide +kernel
theorem dX7_peel_62 : decode cX7_peel 62 = .ok (.aload_n 0, 1) := by decide +kernel
theorem dX7_peel_63 : decode cX7_peel 63 = .ok (.iload_n 1, 1) := by decide +kernel
theorem dX7_peel_64 : decode cX7_peel 64 = .ok (.invokevirtual 94, 3) := by decide +kernel
theorem dX7_peel_67 : decode cX7_peel 67 = .ok (.istore_n 3, 1) := by decide +kernel
theorem dX7_peel_68 : decode cX7_peel 68 = .ok (.goto (-60), 3) := by decide +kernel
theorem dX7_peel_71 : decode cX7_peel 71 = .ok (.iload_n 2, 1) := by decide +kernel
theorem dX7_peel_72 : decode cX7_peel 72 = .ok (.ireturn, 1) := by decide +kernel
theorem dX7_comes_0 : decode cX7_comes 0 = .ok (.aload_n 0, 1) := by decide +kernel
theorem dX7_comes_1 : decode cX7_comes 1 = .ok (.getfield 81, 3) := by decide +kernel
theorem dX7_comes_4 : decode cX7_comes 4 = .ok (.aload_n 0, 1) := by decide +kernel
theorem dX7_comes_5 : decode cX7_comes 5 = .ok (.iload_n 1, 1) := by decide +kernel
theorem dX7_comes_6 : decode cX7_comes 6 = .ok (.iconst 0, 1) := by decide +kernel
theorem dX7_comes_7 : decode cX7_comes 7 = .ok (.invokevirtual 48, 3) := by decide +kernel
theorem dX7_comes_10 : decode cX7_comes 10 = .ok (.iconst (-1), 1) := by decide +kernel
theorem dX7_comes_11 : decode cX7_comes 11 = .ok (.ixor, 1) := by decide +kernel
theorem dX7_comes_12 : decode cX7_comes 12 = .ok (.iand, 1) := by decide +kernel
theorem dX7_comes_13 : decode cX7_comes 13 = .ok (.istore_n 2, 1) := by decide +kernel
theorem dX7_comes_14 : decode cX7_comes 14 = .ok (.aload_n 0, 1) := by decide +kernel
theorem dX7_comes_15 : decode cX7_comes 15 = .ok (.getfield 84, 3) := by decide +kernel
theorem dX7_comes_18 : decode cX7_comes 18 = .ok (.istore_n 3, 1) := by decide +kernel
theorem dX7_comes_19 : decode cX7_comes 19 = .ok (.iconst 0, 1) := by decide +kernel
theorem dX7_comes_20 : decode cX7_comes 20 = .ok (.istore 4, 2) := by decide +kernel
theorem dX7_comes_22 : decode cX7_comes 22 = .ok (.iload 4, 2) := by decide +kernel
theorem dX7_comes_24 : decode cX7_comes 24 = .ok (.bipush 16, 2) := by decide +kernel
theorem dX7_comes_26 : decode cX7_comes 26 = .ok (.if_icmp .ge 45, 3) := by decide +kernel
theorem dX7_comes_29 : decode cX7_comes 29 = .ok (.iload_n 3, 1) := by decide +kernel
theorem dX7_comes_30 : decode cX7_comes 30 = .ok (.aload_n 0, 1) := by decide +kernel
theorem dX7_comes_31 : decode cX7_comes 31 = .ok (.getfield 81, 3) := by decide +kernel
theorem dX7_comes_34 : decode cX7_comes 34 = .ok (.aload_n 0, 1) := by decide +kernel
theorem dX7_comes_35 : decode cX7_comes 35 = .ok (.iload_n 1, 1) := by decide +kernel
theorem dX7_comes_36 : decode cX7_comes 36 = .ok (.iconst 0, 1) := by decide +kernel
theorem dX7_comes_37 : decode cX7_comes 37 = .ok (.invokevirtual 48, 3) := by decide +kernel
theorem dX7_comes_40 : decode cX7_comes 40 = .ok (.iand, 1) := by decide +kernel
theorem dX7_comes_41 : decode cX7_comes 41 = .ok (.iload 4, 2) := by decide +kernel
theorem dX7_comes_43 : decode cX7_comes 43 = .ok (.ishr, 1) := by decide +kernel
theorem dX7_comes_44 : decode cX7_comes 44 = .ok (.iconst 1, 1) := by decide +kernel
theorem dX7_comes_45 : decode cX7_comes 45 = .ok (.iand, 1) := by decide +kernel
theorem dX7_comes_46 : decode cX7_comes 46 = .ok (.iconst 1, 1) := by decide +kernel
theorem dX7_comes_47 : decode cX7_comes 47 = .ok (.if_icmp .ne 15, 3) := by decide +kernel
theorem dX7_comes_50 : decode cX7_comes 50 = .ok (.aload_n 0, 1) := by decide +kernel
theorem dX7_comes_51 : decode cX7_comes 51 = .ok (.iload_n 1, 1) := by decide +kernel
theorem dX7_comes_52 : decode cX7_comes 52 = .ok (.iconst 5, 1) := by decide +kernel
theorem dX7_comes_53 : decode cX7_comes 53 = .ok (.iload 4, 2) := by decide +kernel
theorem dX7_comes_55 : decode cX7_comes 55 = .ok (.iadd, 1) := by decide +kernel
theorem dX7_comes_56 : decode cX7_comes 56 = .ok (.invokevirtual 48, 3) := by decide +kernel
theorem dX7_comes_59 : decode cX7_comes 59 = .ok (.goto 4, 3) := by decide +kernel
theorem dX7_comes_62 : decode cX7_comes 62 = .ok (.iconst 0, 1) := by decide +kernel
theorem dX7_comes_63 : decode cX7_comes 63 = .ok (.ixor, 1) := by decide +kernel
theorem dX7_comes_64 : decode cX7_comes 64 = .ok (.istore_n 3, 1) := by decide +kernel
theorem dX7_comes_65 : decode cX7_comes 65 = .ok (.iinc 4 1, 3) := by decide +kernel
theorem dX7_comes_68 : decode cX7_comes 68 = .ok (.goto (-46), 3) := by decide +kernel
theorem dX7_comes_71 : decode cX7_comes 71 = .ok (.iload_n 2, 1) := by decide +kernel
theorem dX7_comes_72 : decode cX7_comes 72 = .ok (.ifCond .eq 29, 3) := by decide +kernel
theorem dX7_comes_75 : decode cX7_comes 75 = .ok (.iload_n 2, 1) := by decide +kernel
theorem dX7_comes_76 : decode cX7_comes 76 = .ok (.invokestatic 91, 3) := by decide +kernel
theorem dX7_comes_79 : decode cX7_comes 79 = .ok (.iconst 2, 1) := by decide +kernel
theorem dX7_comes_80 : decode cX7_comes 80 = .ok (.if_icmp .ge 21, 3) := by decide +kernel
theorem dX7_comes_83 : decode cX7_comes 83 = .ok (.aload_n 0, 1) := by decide +kernel
theorem dX7_comes_84 : decode cX7_comes 84 = .ok (.iload_n 1, 1) := by decide +kernel
theorem dX7_comes_85 : decode cX7_comes 85 = .ok (.iload_n 2, 1) := by decide +kernel
theorem dX7_comes_86 : decode cX7_comes 86 = .ok (.invokestatic 101, 3) := by decide +kernel
theorem dX7_comes_89 : decode cX7_comes 89 = .ok (.iload_n 3, 1) := by decide +kernel
theorem dX7_comes_90 : decode cX7_comes 90 = .ok (.invokevirtual 104, 3) := by decide +kernel
theorem dX7_comes_93 : decode cX7_comes 93 = .ok (.iconst 2, 1) := by decide +kernel
theorem dX7_comes_94 : decode cX7_comes 94 = .ok (.aload_n 0, 1) := by decide +kernel
theorem dX7_comes_95 : decode cX7_comes 95 = .ok (.iload_n 1, 1) := by decide +kernel
theorem dX7_comes_96 : decode cX7_comes 96 = .ok (.invokevirtual 107, 3) := by decide +kernel
theorem dX7_comes_99 : decode cX7_comes 99 = .ok (.iadd, 1) := by decide +kernel
theorem dX7_comes_100 : decode cX7_comes 100 = .ok (.ireturn, 1) := by decide +kernel
theorem dX7_comes_101 : decode cX7_comes 101 = .ok (.aload_n 0, 1) := by decide +kernel
theorem dX7_comes_102 : decode cX7_comes 102 = .ok (.iload_n 1, 1) := by decide +kernel
theorem dX7_comes_103 : decode cX7_comes 103 = .ok (.iconst 1, 1) := by decide +kernel
theorem dX7_comes_104 : decode cX7_comes 104 = .ok (.invokevirtual 48, 3) := by decide +kernel
theorem dX7_comes_107 : decode cX7_comes 107 = .ok (.istore 4, 2) := by decide +kernel
theorem dX7_comes_109 : decode cX7_comes 109 = .ok (.iload_n 2, 1) := by decide +kernel
theorem dX7_comes_110 : decode cX7_comes 110 = .ok (.ifCond .eq 10, 3) := by decide +kernel
theorem dX7_comes_113 : decode cX7_comes 113 = .ok (.iload 4, 2) := by decide +kernel
theorem dX7_comes_115 : decode cX7_comes 115 = .ok (.bipush 24, 2) := by decide +kernel
theorem dX7_comes_117 : decode cX7_comes 117 = .ok (.if_icmp .ne 5, 3) := by decide +kernel
theorem dX7_comes_120 : decode cX7_comes 120 = .ok (.iconst 0, 1) := by decide +kernel
theorem dX7_comes_121 : decode cX7_comes 121 = .ok (.ireturn, 1) := by decide +kernel
theorem dX7_comes_122 : decode cX7_comes 122 = .ok (.aload_n 0, 1) := by decide +kernel
theorem dX7_comes_123 : decode cX7_comes 123 = .ok (.iload_n 1, 1) := by decide +kernel
theorem dX7_comes_124 : decode cX7_comes 124 = .ok (.bipush 21, 2) := by decide +kernel
theorem dX7_comes_126 : decode cX7_comes 126 = .ok (.iload 4, 2) := by decide +kernel
theorem dX7_comes_128 : decode cX7_comes 128 = .ok (.iadd, 1) := by decide +kernel
theorem dX7_comes_129 : decode cX7_comes 129 = .ok (.iload_n 2, 1) := by decide +kernel
theorem dX7_comes_130 : decode cX7_comes 130 = .ok (.invokevirtual 87, 3) := by decide +kernel
theorem dX7_comes_133 : decode cX7_comes 133 = .ok (.aload_n 0, 1) := by decide +kernel
theorem dX7_comes_134 : decode cX7_comes 134 = .ok (.iload_n 1, 1) := by decide +kernel
theorem dX7_comes_135 : decode cX7_comes 135 = .ok (.bipush 45, 2) := by decide +kernel
theorem dX7_comes_137 : decode cX7_comes 137 = .ok (.iload 4, 2) := by decide +kernel
theorem dX7_comes_139 : decode cX7_comes 139 = .ok (.iadd, 1) := by decide +kernel
theorem dX7_comes_140 : decode cX7_comes 140 = .ok (.iload_n 3, 1) := by decide +kernel
theorem dX7_comes_141 : decode cX7_comes 141 = .ok (.invokevirtual 87, 3) := by decide +kernel
theorem dX7_comes_144 : decode cX7_comes 144 = .ok (.aload_n 0, 1) := by decide +kernel
theorem dX7_comes_145 : decode cX7_comes 145 = .ok (.iload_n 1, 1) := by decide +kernel
theorem dX7_comes_146 : decode cX7_comes 146 = .ok (.iconst 1, 1) := by decide +kernel
theorem dX7_comes_147 : decode cX7_comes 147 = .ok (.iload 4, 2) := by decide +kernel
theorem dX7_comes_149 : decode cX7_comes 149 = .ok (.iconst 1, 1) := by decide +kernel
theorem dX7_comes_150 : decode cX7_comes 150 = .ok (.iadd, 1) := by decide +kernel
theorem dX7_comes_151 : decode cX7_comes 151 = .ok (.invokevirtual 87, 3) := by decide +kernel
theorem dX7_comes_154 : decode cX7_comes 154 = .ok (.iconst 1, 1) := by decide +kernel
theorem dX7_comes_155 : decode cX7_comes 155 = .ok (.ireturn, 1) := by decide +kernel
theorem dX7_drops_0 : decode cX7_drops 0 = .ok (.aload_n 0, 1) := by decide +kernel
theorem dX7_drops_1 : decode cX7_drops 1 = .ok (.iload_n 2, 1) := by decide +kernel
theorem dX7_drops_2 : decode cX7_drops 2 = .ok (.invokevirtual 110, 3) := by decide +kernel
theorem dX7_drops_5 : decode cX7_drops 5 = .ok (.aload_n 0, 1) := by decide +kernel
theorem dX7_drops_6 : decode cX7_drops 6 = .ok (.getfield 7, 3) := by decide +kernel
theorem dX7_drops_9 : decode cX7_drops 9 = .ok (.iconst 4, 1) := by decide +kernel
theorem dX7_drops_10 : decode cX7_drops 10 = .ok (.dup2, 1) := by decide +kernel
theorem dX7_drops_11 : decode cX7_drops 11 = .ok (.iaload, 1) := by decide +kernel
theorem dX7_drops_12 : decode cX7_drops 12 = .ok (.iconst 1, 1) := by decide +kernel
theorem dX7_drops_13 : decode cX7_drops 13 = .ok (.iadd, 1) := by decide +kernel
theorem dX7_drops_14 : decode cX7_drops 14 = .ok (.iastore, 1) := by decide +kernel
theorem dX7_drops_15 : decode cX7_drops 15 = .ok (.aload_n 0, 1) := by decide +kernel
theorem dX7_drops_16 : decode cX7_drops 16 = .ok (.iload_n 1, 1) := by decide +kernel
theorem dX7_drops_17 : decode cX7_drops 17 = .ok (.iconst 2, 1) := by decide +kernel
theorem dX7_drops_18 : decode cX7_drops 18 = .ok (.aload_n 0, 1) := by decide +kernel
theorem dX7_drops_19 : decode cX7_drops 19 = .ok (.iload_n 1, 1) := by decide +kernel
theorem dX7_drops_20 : decode cX7_drops 20 = .ok (.iconst 2, 1) := by decide +kernel
theorem dX7_drops_21 : decode cX7_drops 21 = .ok (.invokevirtual 48, 3) := by decide +kernel
theorem dX7_drops_24 : decode cX7_drops 24 = .ok (.iconst 1, 1) := by decide +kernel
theorem dX7_drops_25 : decode cX7_drops 25 = .ok (.iadd, 1) := by decide +kernel
theorem dX7_drops_26 : decode cX7_drops 26 = .ok (.invokevirtual 87, 3) := by decide +kernel
theorem dX7_drops_29 : decode cX7_drops 29 = .ok (.aload_n 0, 1) := by decide +kernel
theorem dX7_drops_30 : decode cX7_drops 30 = .ok (.getfield 71, 3) := by decide +kernel
theorem dX7_drops_33 : decode cX7_drops 33 = .ok (.ifCond .eq 19, 3) := by decide +kernel
theorem dX7_drops_36 : decode cX7_drops 36 = .ok (.aload_n 0, 1) := by decide +kernel
theorem dX7_drops_37 : decode cX7_drops 37 = .ok (.iload_n 1, 1) := by decide +kernel
theorem dX7_drops_38 : decode cX7_drops 38 = .ok (.iconst 3, 1) := by decide +kernel
theorem dX7_drops_39 : decode cX7_drops 39 = .ok (.aload_n 0, 1) := by decide +kernel
theorem dX7_drops_40 : decode cX7_drops 40 = .ok (.iload_n 1, 1) := by decide +kernel
theorem dX7_drops_41 : decode cX7_drops 41 = .ok (.iconst 3, 1) := by decide +kernel
theorem dX7_drops_42 : decode cX7_drops 42 = .ok (.invokevirtual 48, 3) := by decide +kernel
theorem dX7_drops_45 : decode cX7_drops 45 = .ok (.iconst 1, 1) := by decide +kernel
theorem dX7_drops_46 : decode cX7_drops 46 = .ok (.iadd, 1) := by decide +kernel
theorem dX7_drops_47 : decode cX7_drops 47 = .ok (.invokevirtual 87, 3) := by decide +kernel
theorem dX7_drops_50 : decode cX7_drops 50 = .ok (.iconst 0, 1) := by decide +kernel
theorem dX7_drops_51 : decode cX7_drops 51 = .ok (.ireturn, 1) := by decide +kernel
theorem dX7_drops_52 : decode cX7_drops 52 = .ok (.aload_n 0, 1) := by decide +kernel
theorem dX7_drops_53 : decode cX7_drops 53 = .ok (.iload_n 1, 1) := by decide +kernel
theorem dX7_drops_54 : decode cX7_drops 54 = .ok (.invokevirtual 114, 3) := by decide +kernel
theorem dX7_drops_57 : decode cX7_drops 57 = .ok (.istore_n 3, 1) := by decide +kernel
theorem dX7_drops_58 : decode cX7_drops 58 = .ok (.aload_n 0, 1) := by decide +kernel
theorem dX7_drops_59 : decode cX7_drops 59 = .ok (.iload_n 1, 1) := by decide +kernel
theorem dX7_drops_60 : decode cX7_drops 60 = .ok (.iconst 4, 1) := by decide +kernel
theorem dX7_drops_61 : decode cX7_drops 61 = .ok (.aload_n 0, 1) := by decide +kernel
theorem dX7_drops_62 : decode cX7_drops 62 = .ok (.iload_n 1, 1) := by decide +kernel
theorem dX7_drops_63 : decode cX7_drops 63 = .ok (.iconst 4, 1) := by decide +kernel
theorem dX7_drops_64 : decode cX7_drops 64 = .ok (.invokevirtual 48, 3) := by decide +kernel
theorem dX7_drops_67 : decode cX7_drops 67 = .ok (.iload_n 3, 1) := by decide +kernel
theorem dX7_drops_68 : decode cX7_drops 68 = .ok (.ifCond .ne 7, 3) := by decide +kernel
theorem dX7_drops_71 : decode cX7_drops 71 = .ok (.iconst 1, 1) := by decide +kernel
theorem dX7_drops_72 : decode cX7_drops 72 = .ok (.goto 4, 3) := by decide +kernel
theorem dX7_drops_75 : decode cX7_drops 75 = .ok (.iconst 0, 1) := by decide +kernel
theorem dX7_drops_76 : decode cX7_drops 76 = .ok (.iadd, 1) := by decide +kernel
theorem dX7_drops_77 : decode cX7_drops 77 = .ok (.invokevirtual 87, 3) := by decide +kernel
theorem dX7_drops_80 : decode cX7_drops 80 = .ok (.iload_n 3, 1) := by decide +kernel
theorem dX7_drops_81 : decode cX7_drops 81 = .ok (.iconst 2, 1) := by decide +kernel
theorem dX7_drops_82 : decode cX7_drops 82 = .ok (.if_icmp .ge 7, 3) := by decide +kernel
theorem dX7_drops_85 : decode cX7_drops 85 = .ok (.iconst 0, 1) := by decide +kernel
theorem dX7_drops_86 : decode cX7_drops 86 = .ok (.goto 6, 3) := by decide +kernel
theorem dX7_drops_89 : decode cX7_drops 89 = .ok (.iload_n 3, 1) := by decide +kernel
theorem dX7_drops_90 : decode cX7_drops 90 = .ok (.iconst 1, 1) := by decide +kernel
theorem dX7_drops_91 : decode cX7_drops 91 = .ok (.isub, 1) := by decide +kernel
theorem dX7_drops_92 : decode cX7_drops 92 = .ok (.ireturn, 1) := by decide +kernel
theorem dX7_follow_0 : decode cX7_follow 0 = .ok (.iconst 0, 1) := by decide +kernel
theorem dX7_follow_1 : decode cX7_follow 1 = .ok (.istore_n 2, 1) := by decide +kernel
theorem dX7_follow_2 : decode cX7_follow 2 = .ok (.iload_n 2, 1) := by decide +kernel
theorem dX7_follow_3 : decode cX7_follow 3 = .ok (.bipush 16, 2) := by decide +kernel
theorem dX7_follow_5 : decode cX7_follow 5 = .ok (.if_icmp .ge 23, 3) := by decide +kernel
theorem dX7_follow_8 : decode cX7_follow 8 = .ok (.aload_n 0, 1) := by decide +kernel
theorem dX7_follow_9 : decode cX7_follow 9 = .ok (.getfield 38, 3) := by decide +kernel
theorem dX7_follow_12 : decode cX7_follow 12 = .ok (.iload_n 2, 1) := by decide +kernel
theorem dX7_follow_13 : decode cX7_follow 13 = .ok (.iconst 0, 1) := by decide +kernel
theorem dX7_follow_14 : decode cX7_follow 14 = .ok (.iastore, 1) := by decide +kernel
theorem dX7_follow_15 : decode cX7_follow 15 = .ok (.aload_n 0, 1) := by decide +kernel
theorem dX7_follow_16 : decode cX7_follow 16 = .ok (.getfield 41, 3) := by decide +kernel
theorem dX7_follow_19 : decode cX7_follow 19 = .ok (.iload_n 2, 1) := by decide +kernel
theorem dX7_follow_20 : decode cX7_follow 20 = .ok (.iconst 0, 1) := by decide +kernel
theorem dX7_follow_21 : decode cX7_follow 21 = .ok (.iastore, 1) := by decide +kernel
theorem dX7_follow_22 : decode cX7_follow 22 = .ok (.iinc 2 1, 3) := by decide +kernel
theorem dX7_follow_25 : decode cX7_follow 25 = .ok (.goto (-23), 3) := by decide +kernel
theorem dX7_follow_28 : decode cX7_follow 28 = .ok (.iconst 0, 1) := by decide +kernel
theorem dX7_follow_29 : decode cX7_follow 29 = .ok (.istore_n 2, 1) := by decide +kernel
theorem dX7_follow_30 : decode cX7_follow 30 = .ok (.iload_n 2, 1) := by decide +kernel
theorem dX7_follow_31 : decode cX7_follow 31 = .ok (.aload_n 0, 1) := by decide +kernel
theorem dX7_follow_32 : decode cX7_follow 32 = .ok (.iload_n 1, 1) := by decide +kernel
theorem dX7_follow_33 : decode cX7_follow 33 = .ok (.iconst 1, 1) := by decide +kernel
theorem dX7_follow_34 : decode cX7_follow 34 = .ok (.invokevirtual 48, 3) := by decide +kernel
theorem dX7_follow_37 : decode cX7_follow 37 = .ok (.if_icmp .ge 173, 3) := by decide +kernel
theorem dX7_follow_40 : decode cX7_follow 40 = .ok (.aload_n 0, 1) := by decide +kernel
theorem dX7_follow_41 : decode cX7_follow 41 = .ok (.iload_n 1, 1) := by decide +kernel
theorem dX7_follow_42 : decode cX7_follow 42 = .ok (.bipush 21, 2) := by decide +kernel
theorem dX7_follow_44 : decode cX7_follow 44 = .ok (.iload_n 2, 1) := by decide +kernel
theorem dX7_follow_45 : decode cX7_follow 45 = .ok (.iadd, 1) := by decide +kernel
theorem dX7_follow_46 : decode cX7_follow 46 = .ok (.invokevirtual 48, 3) := by decide +kernel
theorem dX7_follow_49 : decode cX7_follow 49 = .ok (.istore_n 3, 1) := by decide +kernel
theorem dX7_follow_50 : decode cX7_follow 50 = .ok (.aload_n 0, 1) := by decide +kernel
theorem dX7_follow_51 : decode cX7_follow 51 = .ok (.iload_n 1, 1) := by decide +kernel
theorem dX7_follow_52 : decode cX7_follow 52 = .ok (.bipush 45, 2) := by decide +kernel
theorem dX7_follow_54 : decode cX7_follow 54 = .ok (.iload_n 2, 1) := by decide +kernel
theorem dX7_follow_55 : decode cX7_follow 55 = .ok (.iadd, 1) := by decide +kernel
theorem dX7_follow_56 : decode cX7_follow 56 = .ok (.invokevirtual 48, 3) := by decide +kernel
theorem dX7_follow_59 : decode cX7_follow 59 = .ok (.istore 4, 2) := by decide +kernel
theorem dX7_follow_61 : decode cX7_follow 61 = .ok (.iconst 0, 1) := by decide +kernel
theorem dX7_follow_62 : decode cX7_follow 62 = .ok (.istore 5, 2) := by decide +kernel
theorem dX7_follow_64 : decode cX7_follow 64 = .ok (.iload 5, 2) := by decide +kernel
theorem dX7_follow_66 : decode cX7_follow 66 = .ok (.bipush 16, 2) := by decide +kernel
theorem dX7_follow_68 : decode cX7_follow 68 = .ok (.if_icmp .ge 51, 3) := by decide +kernel
theorem dX7_follow_71 : decode cX7_follow 71 = .ok (.iload_n 3, 1) := by decide +kernel
theorem dX7_follow_72 : decode cX7_follow 72 = .ok (.iload 5, 2) := by decide +kernel
theorem dX7_follow_74 : decode cX7_follow 74 = .ok (.ishr, 1) := by decide +kernel
theorem dX7_follow_75 : decode cX7_follow 75 = .ok (.iconst 1, 1) := by decide +kernel
theorem dX7_follow_76 : decode cX7_follow 76 = .ok (.iand, 1) := by decide +kernel
theorem dX7_follow_77 : decode cX7_follow 77 = .ok (.iconst 1, 1) := by decide +kernel
theorem dX7_follow_78 : decode cX7_follow 78 = .ok (.if_icmp .ne 35, 3) := by decide +kernel
theorem dX7_follow_81 : decode cX7_follow 81 = .ok (.aload_n 0, 1) := by decide +kernel
theorem dX7_follow_82 : decode cX7_follow 82 = .ok (.getfield 38, 3) := by decide +kernel
theorem dX7_follow_85 : decode cX7_follow 85 = .ok (.iload 5, 2) := by decide +kernel
theorem dX7_follow_87 : decode cX7_follow 87 = .ok (.iaload, 1) := by decide +kernel
theorem dX7_follow_88 : decode cX7_follow 88 = .ok (.ifCond .eq 25, 3) := by decide +kernel
theorem dX7_follow_91 : decode cX7_follow 91 = .ok (.iload_n 3, 1) := by decide +kernel
theorem dX7_follow_92 : decode cX7_follow 92 = .ok (.aload_n 0, 1) := by decide +kernel
theorem dX7_follow_93 : decode cX7_follow 93 = .ok (.getfield 38, 3) := by decide +kernel
theorem dX7_follow_96 : decode cX7_follow 96 = .ok (.iload 5, 2) := by decide +kernel
theorem dX7_follow_98 : decode cX7_follow 98 = .ok (.iaload, 1) := by decide +kernel
theorem dX7_follow_99 : decode cX7_follow 99 = .ok (.ixor, 1) := by decide +kernel
theorem dX7_follow_100 : decode cX7_follow 100 = .ok (.istore_n 3, 1) := by decide +kernel
theorem dX7_follow_101 : decode cX7_follow 101 = .ok (.iload 4, 2) := by decide +kernel
theorem dX7_follow_103 : decode cX7_follow 103 = .ok (.aload_n 0, 1) := by decide +kernel
theorem dX7_follow_104 : decode cX7_follow 104 = .ok (.getfield 41, 3) := by decide +kernel
theorem dX7_follow_107 : decode cX7_follow 107 = .ok (.iload 5, 2) := by decide +kernel
theorem dX7_follow_109 : decode cX7_follow 109 = .ok (.iaload, 1) := by decide +kernel
theorem dX7_follow_110 : decode cX7_follow 110 = .ok (.ixor, 1) := by decide +kernel
theorem dX7_follow_111 : decode cX7_follow 111 = .ok (.istore 4, 2) := by decide +kernel
theorem dX7_follow_113 : decode cX7_follow 113 = .ok (.iinc 5 1, 3) := by decide +kernel
theorem dX7_follow_116 : decode cX7_follow 116 = .ok (.goto (-52), 3) := by decide +kernel
theorem dX7_follow_119 : decode cX7_follow 119 = .ok (.iload_n 3, 1) := by decide +kernel
theorem dX7_follow_120 : decode cX7_follow 120 = .ok (.ifCond .ne 6, 3) := by decide +kernel
theorem dX7_follow_123 : decode cX7_follow 123 = .ok (.goto 81, 3) := by decide +kernel
theorem dX7_follow_126 : decode cX7_follow 126 = .ok (.iload_n 3, 1) := by decide +kernel
theorem dX7_follow_127 : decode cX7_follow 127 = .ok (.invokestatic 101, 3) := by decide +kernel
theorem dX7_follow_130 : decode cX7_follow 130 = .ok (.istore 5, 2) := by decide +kernel
theorem dX7_follow_132 : decode cX7_follow 132 = .ok (.iconst 0, 1) := by decide +kernel
theorem dX7_follow_133 : decode cX7_follow 133 = .ok (.istore 6, 2) := by decide +kernel
theorem dX7_follow_135 : decode cX7_follow 135 = .ok (.iload 6, 2) := by decide +kernel
theorem dX7_follow_137 : decode cX7_follow 137 = .ok (.bipush 16, 2) := by decide +kernel
theorem dX7_follow_139 : decode cX7_follow 139 = .ok (.if_icmp .ge 48, 3) := by decide +kernel
theorem dX7_follow_142 : decode cX7_follow 142 = .ok (.aload_n 0, 1) := by decide +kernel
theorem dX7_follow_143 : decode cX7_follow 143 = .ok (.getfield 38, 3) := by decide +kernel
theorem dX7_follow_146 : decode cX7_follow 146 = .ok (.iload 6, 2) := by decide +kernel
theorem dX7_follow_148 : decode cX7_follow 148 = .ok (.iaload, 1) := by decide +kernel
theorem dX7_follow_149 : decode cX7_follow 149 = .ok (.iload 5, 2) := by decide +kernel
theorem dX7_follow_151 : decode cX7_follow 151 = .ok (.ishr, 1) := by decide +kernel
theorem dX7_follow_152 : decode cX7_follow 152 = .ok (.iconst 1, 1) := by decide +kernel
theorem dX7_follow_153 : decode cX7_follow 153 = .ok (.iand, 1) := by decide +kernel
theorem dX7_follow_154 : decode cX7_follow 154 = .ok (.iconst 1, 1) := by decide +kernel
theorem dX7_follow_155 : decode cX7_follow 155 = .ok (.if_icmp .ne 26, 3) := by decide +kernel
theorem dX7_follow_158 : decode cX7_follow 158 = .ok (.aload_n 0, 1) := by decide +kernel
theorem dX7_follow_159 : decode cX7_follow 159 = .ok (.getfield 38, 3) := by decide +kernel
theorem dX7_follow_162 : decode cX7_follow 162 = .ok (.iload 6, 2) := by decide +kernel
theorem dX7_follow_164 : decode cX7_follow 164 = .ok (.dup2, 1) := by decide +kernel
theorem dX7_follow_165 : decode cX7_follow 165 = .ok (.iaload, 1) := by decide +kernel
theorem dX7_follow_166 : decode cX7_follow 166 = .ok (.iload_n 3, 1) := by decide +kernel
theorem dX7_follow_167 : decode cX7_follow 167 = .ok (.ixor, 1) := by decide +kernel
theorem dX7_follow_168 : decode cX7_follow 168 = .ok (.iastore, 1) := by decide +kernel
theorem dX7_follow_169 : decode cX7_follow 169 = .ok (.aload_n 0, 1) := by decide +kernel
theorem dX7_follow_170 : decode cX7_follow 170 = .ok (.getfield 41, 3) := by decide +kernel
theorem dX7_follow_173 : decode cX7_follow 173 = .ok (.iload 6, 2) := by decide +kernel
theorem dX7_follow_175 : decode cX7_follow 175 = .ok (.dup2, 1) := by decide +kernel
theorem dX7_follow_176 : decode cX7_follow 176 = .ok (.iaload, 1) := by decide +kernel
theorem dX7_follow_177 : decode cX7_follow 177 = .ok (.iload 4, 2) := by decide +kernel
theorem dX7_follow_179 : decode cX7_follow 179 = .ok (.ixor, 1) := by decide +kernel
theorem dX7_follow_180 : decode cX7_follow 180 = .ok (.iastore, 1) := by decide +kernel
theorem dX7_follow_181 : decode cX7_follow 181 = .ok (.iinc 6 1, 3) := by decide +kernel
theorem dX7_follow_184 : decode cX7_follow 184 = .ok (.goto (-49), 3) := by decide +kernel
theorem dX7_follow_187 : decode cX7_follow 187 = .ok (.aload_n 0, 1) := by decide +kernel
theorem dX7_follow_188 : decode cX7_follow 188 = .ok (.getfield 38, 3) := by decide +kernel
theorem dX7_follow_191 : decode cX7_follow 191 = .ok (.iload 5, 2) := by decide +kernel
theorem dX7_follow_193 : decode cX7_follow 193 = .ok (.iload_n 3, 1) := by decide +kernel
theorem dX7_follow_194 : decode cX7_follow 194 = .ok (.iastore, 1) := by decide +kernel
theorem dX7_follow_195 : decode cX7_follow 195 = .ok (.aload_n 0, 1) := by decide +kernel
theorem dX7_follow_196 : decode cX7_follow 196 = .ok (.getfield 41, 3) := by decide +kernel
theorem dX7_follow_199 : decode cX7_follow 199 = .ok (.iload 5, 2) := by decide +kernel
theorem dX7_follow_201 : decode cX7_follow 201 = .ok (.iload 4, 2) := by decide +kernel
theorem dX7_follow_203 : decode cX7_follow 203 = .ok (.iastore, 1) := by decide +kernel
theorem dX7_follow_204 : decode cX7_follow 204 = .ok (.iinc 2 1, 3) := by decide +kernel
theorem dX7_follow_207 : decode cX7_follow 207 = .ok (.goto (-177), 3) := by decide +kernel
theorem dX7_follow_210 : decode cX7_follow 210 = .ok (.iconst 0, 1) := by decide +kernel
theorem dX7_follow_211 : decode cX7_follow 211 = .ok (.istore_n 2, 1) := by decide +kernel
theorem dX7_follow_212 : decode cX7_follow 212 = .ok (.iconst 0, 1) := by decide +kernel
theorem dX7_follow_213 : decode cX7_follow 213 = .ok (.istore_n 3, 1) := by decide +kernel
theorem dX7_follow_214 : decode cX7_follow 214 = .ok (.iload_n 3, 1) := by decide +kernel
theorem dX7_follow_215 : decode cX7_follow 215 = .ok (.bipush 16, 2) := by decide +kernel
theorem dX7_follow_217 : decode cX7_follow 217 = .ok (.if_icmp .ge 31, 3) := by decide +kernel
theorem dX7_follow_220 : decode cX7_follow 220 = .ok (.iload_n 2, 1) := by decide +kernel
theorem dX7_follow_221 : decode cX7_follow 221 = .ok (.aload_n 0, 1) := by decide +kernel
theorem dX7_follow_222 : decode cX7_follow 222 = .ok (.getfield 38, 3) := by decide +kernel
theorem dX7_follow_225 : decode cX7_follow 225 = .ok (.iload_n 3, 1) := by decide +kernel
theorem dX7_follow_226 : decode cX7_follow 226 = .ok (.iaload, 1) := by decide +kernel
theorem dX7_follow_227 : decode cX7_follow 227 = .ok (.iconst 1, 1) := by decide +kernel
theorem dX7_follow_228 : decode cX7_follow 228 = .ok (.iload_n 3, 1) := by decide +kernel
theorem dX7_follow_229 : decode cX7_follow 229 = .ok (.ishl, 1) := by decide +kernel
theorem dX7_follow_230 : decode cX7_follow 230 = .ok (.if_icmp .ne 9, 3) := by decide +kernel
theorem dX7_follow_233 : decode cX7_follow 233 = .ok (.iconst 1, 1) := by decide +kernel
theorem dX7_follow_234 : decode cX7_follow 234 = .ok (.iload_n 3, 1) := by decide +kernel
theorem dX7_follow_235 : decode cX7_follow 235 = .ok (.ishl, 1) := by decide +kernel
theorem dX7_follow_236 : decode cX7_follow 236 = .ok (.goto 4, 3) := by decide +kernel
theorem dX7_follow_239 : decode cX7_follow 239 = .ok (.iconst 0, 1) := by decide +kernel
theorem dX7_follow_240 : decode cX7_follow 240 = .ok (.ior, 1) := by decide +kernel
theorem dX7_follow_241 : decode cX7_follow 241 = .ok (.istore_n 2, 1) := by decide +kernel
theorem dX7_follow_242 : decode cX7_follow 242 = .ok (.iinc 3 1, 3) := by decide +kernel
theorem dX7_follow_245 : decode cX7_follow 245 = .ok (.goto (-31), 3) := by decide +kernel
theorem dX7_follow_248 : decode cX7_follow 248 = .ok (.iload_n 2, 1) := by decide +kernel
theorem dX7_follow_249 : decode cX7_follow 249 = .ok (.ireturn, 1) := by decide +kernel
theorem dX7_begins_0 : decode cX7_begins 0 = .ok (.iload_n 1, 1) := by decide +kernel
theorem dX7_begins_1 : decode cX7_begins 1 = .ok (.i2l, 1) := by decide +kernel
theorem dX7_begins_2 : decode cX7_begins 2 = .ok (.iconst 0, 1) := by decide +kernel
theorem dX7_begins_3 : decode cX7_begins 3 = .ok (.ldc 117, 2) := by decide +kernel
theorem dX7_begins_5 : decode cX7_begins 5 = .ok (.invokestatic 44, 3) := by decide +kernel
theorem dX7_begins_8 : decode cX7_begins 8 = .ok (.ifCond .ne 6, 3) := by decide +kernel
theorem dX7_begins_11 : decode cX7_begins 11 = .ok (.bipush (-2), 2) := by decide +kernel
theorem dX7_begins_13 : decode cX7_begins 13 = .ok (.ireturn, 1) := by decide +kernel
theorem dX7_begins_14 : decode cX7_begins 14 = .ok (.aload_n 0, 1) := by decide +kernel
theorem dX7_begins_15 : decode cX7_begins 15 = .ok (.getfield 7, 3) := by decide +kernel
theorem dX7_begins_18 : decode cX7_begins 18 = .ok (.iconst 3, 1) := by decide +kernel
theorem dX7_begins_19 : decode cX7_begins 19 = .ok (.iaload, 1) := by decide +kernel
theorem dX7_begins_20 : decode cX7_begins 20 = .ok (.ifCond .le 6, 3) := by decide +kernel
theorem dX7_begins_23 : decode cX7_begins 23 = .ok (.bipush (-5), 2) := by decide +kernel
theorem dX7_begins_25 : decode cX7_begins 25 = .ok (.ireturn, 1) := by decide +kernel
theorem dX7_begins_26 : decode cX7_begins 26 = .ok (.aload_n 0, 1) := by decide +kernel
theorem dX7_begins_27 : decode cX7_begins 27 = .ok (.getfield 7, 3) := by decide +kernel
theorem dX7_begins_30 : decode cX7_begins 30 = .ok (.iconst 2, 1) := by decide +kernel
theorem dX7_begins_31 : decode cX7_begins 31 = .ok (.iaload, 1) := by decide +kernel
theorem dX7_begins_32 : decode cX7_begins 32 = .ok (.istore_n 2, 1) := by decide +kernel
theorem dX7_begins_33 : decode cX7_begins 33 = .ok (.iload_n 2, 1) := by decide +kernel
theorem dX7_begins_34 : decode cX7_begins 34 = .ok (.bipush 16, 2) := by decide +kernel
theorem dX7_begins_36 : decode cX7_begins 36 = .ok (.if_icmp .ne 6, 3) := by decide +kernel
theorem dX7_begins_39 : decode cX7_begins 39 = .ok (.bipush (-4), 2) := by decide +kernel
theorem dX7_begins_41 : decode cX7_begins 41 = .ok (.ireturn, 1) := by decide +kernel
theorem dX7_begins_42 : decode cX7_begins 42 = .ok (.aload_n 0, 1) := by decide +kernel
theorem dX7_begins_43 : decode cX7_begins 43 = .ok (.getfield 7, 3) := by decide +kernel
theorem dX7_begins_46 : decode cX7_begins 46 = .ok (.iconst 5, 1) := by decide +kernel
theorem dX7_begins_47 : decode cX7_begins 47 = .ok (.iload_n 2, 1) := by decide +kernel
theorem dX7_begins_48 : decode cX7_begins 48 = .ok (.iadd, 1) := by decide +kernel
theorem dX7_begins_49 : decode cX7_begins 49 = .ok (.iload_n 1, 1) := by decide +kernel
theorem dX7_begins_50 : decode cX7_begins 50 = .ok (.iastore, 1) := by decide +kernel
theorem dX7_begins_51 : decode cX7_begins 51 = .ok (.aload_n 0, 1) := by decide +kernel
theorem dX7_begins_52 : decode cX7_begins 52 = .ok (.getfield 7, 3) := by decide +kernel
theorem dX7_begins_55 : decode cX7_begins 55 = .ok (.iconst 2, 1) := by decide +kernel
theorem dX7_begins_56 : decode cX7_begins 56 = .ok (.dup2, 1) := by decide +kernel
theorem dX7_begins_57 : decode cX7_begins 57 = .ok (.iaload, 1) := by decide +kernel
theorem dX7_begins_58 : decode cX7_begins 58 = .ok (.iconst 1, 1) := by decide +kernel
theorem dX7_begins_59 : decode cX7_begins 59 = .ok (.iadd, 1) := by decide +kernel
theorem dX7_begins_60 : decode cX7_begins 60 = .ok (.iastore, 1) := by decide +kernel
theorem dX7_begins_61 : decode cX7_begins 61 = .ok (.iload_n 2, 1) := by decide +kernel
theorem dX7_begins_62 : decode cX7_begins 62 = .ok (.ireturn, 1) := by decide +kernel
theorem dX7_cupComes_0 : decode cX7_cupComes 0 = .ok (.aload_n 0, 1) := by decide +kernel
theorem dX7_cupComes_1 : decode cX7_cupComes 1 = .ok (.getfield 7, 3) := by decide +kernel
theorem dX7_cupComes_4 : decode cX7_cupComes 4 = .ok (.iconst 3, 1) := by decide +kernel
theorem dX7_cupComes_5 : decode cX7_cupComes 5 = .ok (.iaload, 1) := by decide +kernel
theorem dX7_cupComes_6 : decode cX7_cupComes 6 = .ok (.istore_n 1, 1) := by decide +kernel
theorem dX7_cupComes_7 : decode cX7_cupComes 7 = .ok (.iload_n 1, 1) := by decide +kernel
theorem dX7_cupComes_8 : decode cX7_cupComes 8 = .ok (.iconst 3, 1) := by decide +kernel
theorem dX7_cupComes_9 : decode cX7_cupComes 9 = .ok (.if_icmp .ne 6, 3) := by decide +kernel
