theorem dX6_degrees_74 : decode cX6_degrees 74 = .ok (.invokevirtual 93, 3) := by decide +kernel
theorem dX6_degrees_77 : decode cX6_degrees 77 = .ok (.aload_n 0, 1) := by decide +kernel
theorem dX6_degrees_78 : decode cX6_degrees 78 = .ok (.getfield 37, 3) := by decide +kernel
theorem dX6_degrees_81 : decode cX6_degrees 81 = .ok (.getfield 97, 3) := by decide +kernel
theorem dX6_degrees_84 : decode cX6_degrees 84 = .ok (.iload_n 3, 1) := by decide +kernel
theorem dX6_degrees_85 : decode cX6_degrees 85 = .ok (.if_icmp .ne 6, 3) := by decide +kernel
theorem dX6_degrees_88 : decode cX6_degrees 88 = .ok (.iinc 4 1, 3) := by decide +kernel
theorem dX6_degrees_91 : decode cX6_degrees 91 = .ok (.iinc 5 1, 3) := by decide +kernel
theorem dX6_degrees_94 : decode cX6_degrees 94 = .ok (.goto (-41), 3) := by decide +kernel
theorem dX6_degrees_97 : decode cX6_degrees 97 = .ok (.iload 4, 2) := by decide +kernel
theorem dX6_degrees_99 : decode cX6_degrees 99 = .ok (.ireturn, 1) := by decide +kernel
theorem dX6_put_0 : decode cX6_put 0 = .ok (.lload_n 1, 1) := by decide +kernel
theorem dX6_put_1 : decode cX6_put 1 = .ok (.invokestatic 184, 3) := by decide +kernel
theorem dX6_put_4 : decode cX6_put 4 = .ok (.istore_n 3, 1) := by decide +kernel
theorem dX6_put_5 : decode cX6_put 5 = .ok (.iload_n 3, 1) := by decide +kernel
theorem dX6_put_6 : decode cX6_put 6 = .ok (.ifCond .ne 6, 3) := by decide +kernel
theorem dX6_put_9 : decode cX6_put 9 = .ok (.bipush (-2), 2) := by decide +kernel
theorem dX6_put_11 : decode cX6_put 11 = .ok (.ireturn, 1) := by decide +kernel
theorem dX6_put_12 : decode cX6_put 12 = .ok (.aload_n 0, 1) := by decide +kernel
theorem dX6_put_13 : decode cX6_put 13 = .ok (.getfield 30, 3) := by decide +kernel
theorem dX6_put_16 : decode cX6_put 16 = .ok (.getfield 165, 3) := by decide +kernel
theorem dX6_put_19 : decode cX6_put 19 = .ok (.iload_n 3, 1) := by decide +kernel
theorem dX6_put_20 : decode cX6_put 20 = .ok (.iadd, 1) := by decide +kernel
theorem dX6_put_21 : decode cX6_put 21 = .ok (.bipush 80, 2) := by decide +kernel
theorem dX6_put_23 : decode cX6_put 23 = .ok (.if_icmp .le 6, 3) := by decide +kernel
theorem dX6_put_26 : decode cX6_put 26 = .ok (.bipush (-4), 2) := by decide +kernel
theorem dX6_put_28 : decode cX6_put 28 = .ok (.ireturn, 1) := by decide +kernel
theorem dX6_put_29 : decode cX6_put 29 = .ok (.iload_n 3, 1) := by decide +kernel
theorem dX6_put_30 : decode cX6_put 30 = .ok (.iconst 1, 1) := by decide +kernel
theorem dX6_put_31 : decode cX6_put 31 = .ok (.isub, 1) := by decide +kernel
theorem dX6_put_32 : decode cX6_put 32 = .ok (.istore 4, 2) := by decide +kernel
theorem dX6_put_34 : decode cX6_put 34 = .ok (.iload 4, 2) := by decide +kernel
theorem dX6_put_36 : decode cX6_put 36 = .ok (.ifCond .lt 29, 3) := by decide +kernel
theorem dX6_put_39 : decode cX6_put 39 = .ok (.aload_n 0, 1) := by decide +kernel
theorem dX6_put_40 : decode cX6_put 40 = .ok (.getfield 30, 3) := by decide +kernel
theorem dX6_put_43 : decode cX6_put 43 = .ok (.lload_n 1, 1) := by decide +kernel
theorem dX6_put_44 : decode cX6_put 44 = .ok (.bipush 8, 2) := by decide +kernel
theorem dX6_put_46 : decode cX6_put 46 = .ok (.iload 4, 2) := by decide +kernel
theorem dX6_put_48 : decode cX6_put 48 = .ok (.imul, 1) := by decide +kernel
theorem dX6_put_49 : decode cX6_put 49 = .ok (.lushr, 1) := by decide +kernel
theorem dX6_put_50 : decode cX6_put 50 = .ok (.ldc2_w 188, 3) := by decide +kernel
theorem dX6_put_53 : decode cX6_put 53 = .ok (.land, 1) := by decide +kernel
theorem dX6_put_54 : decode cX6_put 54 = .ok (.l2i, 1) := by decide +kernel
theorem dX6_put_55 : decode cX6_put 55 = .ok (.i2c, 1) := by decide +kernel
theorem dX6_put_56 : decode cX6_put 56 = .ok (.invokevirtual 190, 3) := by decide +kernel
theorem dX6_put_59 : decode cX6_put 59 = .ok (.iinc 4 (-1), 3) := by decide +kernel
theorem dX6_put_62 : decode cX6_put 62 = .ok (.goto (-28), 3) := by decide +kernel
theorem dX6_put_65 : decode cX6_put 65 = .ok (.aload_n 0, 1) := by decide +kernel
theorem dX6_put_66 : decode cX6_put 66 = .ok (.getfield 30, 3) := by decide +kernel
theorem dX6_put_69 : decode cX6_put 69 = .ok (.getfield 165, 3) := by decide +kernel
theorem dX6_put_72 : decode cX6_put 72 = .ok (.ireturn, 1) := by decide +kernel
theorem dX6_wipe_0 : decode cX6_wipe 0 = .ok (.aload_n 0, 1) := by decide +kernel
theorem dX6_wipe_1 : decode cX6_wipe 1 = .ok (.getfield 30, 3) := by decide +kernel
theorem dX6_wipe_4 : decode cX6_wipe 4 = .ok (.getfield 165, 3) := by decide +kernel
theorem dX6_wipe_7 : decode cX6_wipe 7 = .ok (.istore_n 1, 1) := by decide +kernel
theorem dX6_wipe_8 : decode cX6_wipe 8 = .ok (.aload_n 0, 1) := by decide +kernel
theorem dX6_wipe_9 : decode cX6_wipe 9 = .ok (.getfield 30, 3) := by decide +kernel
theorem dX6_wipe_12 : decode cX6_wipe 12 = .ok (.iconst 0, 1) := by decide +kernel
theorem dX6_wipe_13 : decode cX6_wipe 13 = .ok (.putfield 165, 3) := by decide +kernel
theorem dX6_wipe_16 : decode cX6_wipe 16 = .ok (.iload_n 1, 1) := by decide +kernel
theorem dX6_wipe_17 : decode cX6_wipe 17 = .ok (.ireturn, 1) := by decide +kernel
theorem dX6_fault_0 : decode cX6_fault 0 = .ok (.aload_n 0, 1) := by decide +kernel
theorem dX6_fault_1 : decode cX6_fault 1 = .ok (.getfield 30, 3) := by decide +kernel
theorem dX6_fault_4 : decode cX6_fault 4 = .ok (.invokevirtual 194, 3) := by decide +kernel
theorem dX6_fault_7 : decode cX6_fault 7 = .ok (.ireturn, 1) := by decide +kernel
theorem dX6_carryOut_0 : decode cX6_carryOut 0 = .ok (.aload_n 0, 1) := by decide +kernel
theorem dX6_carryOut_1 : decode cX6_carryOut 1 = .ok (.getfield 30, 3) := by decide +kernel
theorem dX6_carryOut_4 : decode cX6_carryOut 4 = .ok (.invokevirtual 194, 3) := by decide +kernel
theorem dX6_carryOut_7 : decode cX6_carryOut 7 = .ok (.bipush (-6), 2) := by decide +kernel
theorem dX6_carryOut_9 : decode cX6_carryOut 9 = .ok (.if_icmp .eq 6, 3) := by decide +kernel
theorem dX6_carryOut_12 : decode cX6_carryOut 12 = .ok (.bipush (-3), 2) := by decide +kernel
theorem dX6_carryOut_14 : decode cX6_carryOut 14 = .ok (.ireturn, 1) := by decide +kernel
theorem dX6_carryOut_15 : decode cX6_carryOut 15 = .ok (.aload_n 0, 1) := by decide +kernel
theorem dX6_carryOut_16 : decode cX6_carryOut 16 = .ok (.getfield 19, 3) := by decide +kernel
theorem dX6_carryOut_19 : decode cX6_carryOut 19 = .ok (.aload_n 0, 1) := by decide +kernel
theorem dX6_carryOut_20 : decode cX6_carryOut 20 = .ok (.getfield 10, 3) := by decide +kernel
theorem dX6_carryOut_23 : decode cX6_carryOut 23 = .ok (.invokevirtual 55, 3) := by decide +kernel
theorem dX6_carryOut_26 : decode cX6_carryOut 26 = .ok (.iconst 0, 1) := by decide +kernel
theorem dX6_carryOut_27 : decode cX6_carryOut 27 = .ok (.istore_n 1, 1) := by decide +kernel
theorem dX6_carryOut_28 : decode cX6_carryOut 28 = .ok (.aload_n 0, 1) := by decide +kernel
theorem dX6_carryOut_29 : decode cX6_carryOut 29 = .ok (.getfield 30, 3) := by decide +kernel
theorem dX6_carryOut_32 : decode cX6_carryOut 32 = .ok (.invokevirtual 197, 3) := by decide +kernel
theorem dX6_carryOut_35 : decode cX6_carryOut 35 = .ok (.iconst 0, 1) := by decide +kernel
theorem dX6_carryOut_36 : decode cX6_carryOut 36 = .ok (.istore_n 2, 1) := by decide +kernel
theorem dX6_carryOut_37 : decode cX6_carryOut 37 = .ok (.iload_n 2, 1) := by decide +kernel
theorem dX6_carryOut_38 : decode cX6_carryOut 38 = .ok (.bipush 80, 2) := by decide +kernel
theorem dX6_carryOut_40 : decode cX6_carryOut 40 = .ok (.if_icmp .ge 42, 3) := by decide +kernel
theorem dX6_carryOut_43 : decode cX6_carryOut 43 = .ok (.aload_n 0, 1) := by decide +kernel
theorem dX6_carryOut_44 : decode cX6_carryOut 44 = .ok (.getfield 30, 3) := by decide +kernel
theorem dX6_carryOut_47 : decode cX6_carryOut 47 = .ok (.invokevirtual 200, 3) := by decide +kernel
theorem dX6_carryOut_50 : decode cX6_carryOut 50 = .ok (.ifCond .eq 32, 3) := by decide +kernel
theorem dX6_carryOut_53 : decode cX6_carryOut 53 = .ok (.aload_n 0, 1) := by decide +kernel
theorem dX6_carryOut_54 : decode cX6_carryOut 54 = .ok (.invokevirtual 204, 3) := by decide +kernel
theorem dX6_carryOut_57 : decode cX6_carryOut 57 = .ok (.ifCond .ge 6, 3) := by decide +kernel
theorem dX6_carryOut_60 : decode cX6_carryOut 60 = .ok (.goto 22, 3) := by decide +kernel
theorem dX6_carryOut_63 : decode cX6_carryOut 63 = .ok (.iinc 1 1, 3) := by decide +kernel
theorem dX6_carryOut_66 : decode cX6_carryOut 66 = .ok (.aload_n 0, 1) := by decide +kernel
theorem dX6_carryOut_67 : decode cX6_carryOut 67 = .ok (.getfield 30, 3) := by decide +kernel
theorem dX6_carryOut_70 : decode cX6_carryOut 70 = .ok (.bipush 59, 2) := by decide +kernel
theorem dX6_carryOut_72 : decode cX6_carryOut 72 = .ok (.invokevirtual 207, 3) := by decide +kernel
theorem dX6_carryOut_75 : decode cX6_carryOut 75 = .ok (.pop, 1) := by decide +kernel
theorem dX6_carryOut_76 : decode cX6_carryOut 76 = .ok (.iinc 2 1, 3) := by decide +kernel
theorem dX6_carryOut_79 : decode cX6_carryOut 79 = .ok (.goto (-42), 3) := by decide +kernel
theorem dX6_carryOut_82 : decode cX6_carryOut 82 = .ok (.aload_n 0, 1) := by decide +kernel
theorem dX6_carryOut_83 : decode cX6_carryOut 83 = .ok (.getfield 30, 3) := by decide +kernel
theorem dX6_carryOut_86 : decode cX6_carryOut 86 = .ok (.iconst 0, 1) := by decide +kernel
theorem dX6_carryOut_87 : decode cX6_carryOut 87 = .ok (.putfield 165, 3) := by decide +kernel
theorem dX6_carryOut_90 : decode cX6_carryOut 90 = .ok (.aload_n 0, 1) := by decide +kernel
theorem dX6_carryOut_91 : decode cX6_carryOut 91 = .ok (.getfield 19, 3) := by decide +kernel
theorem dX6_carryOut_94 : decode cX6_carryOut 94 = .ok (.iload_n 1, 1) := by decide +kernel
theorem dX6_carryOut_95 : decode cX6_carryOut 95 = .ok (.invokevirtual 63, 3) := by decide +kernel
theorem dX6_carryOut_98 : decode cX6_carryOut 98 = .ok (.ireturn, 1) := by decide +kernel
theorem dX6_undo_0 : decode cX6_undo 0 = .ok (.aload_n 0, 1) := by decide +kernel
theorem dX6_undo_1 : decode cX6_undo 1 = .ok (.getfield 19, 3) := by decide +kernel
theorem dX6_undo_4 : decode cX6_undo 4 = .ok (.aload_n 0, 1) := by decide +kernel
theorem dX6_undo_5 : decode cX6_undo 5 = .ok (.getfield 10, 3) := by decide +kernel
theorem dX6_undo_8 : decode cX6_undo 8 = .ok (.invokevirtual 211, 3) := by decide +kernel
theorem dX6_undo_11 : decode cX6_undo 11 = .ok (.ifCond .eq 13, 3) := by decide +kernel
theorem dX6_undo_14 : decode cX6_undo 14 = .ok (.aload_n 0, 1) := by decide +kernel
theorem dX6_undo_15 : decode cX6_undo 15 = .ok (.getfield 19, 3) := by decide +kernel
theorem dX6_undo_18 : decode cX6_undo 18 = .ok (.getfield 168, 3) := by decide +kernel
theorem dX6_undo_21 : decode cX6_undo 21 = .ok (.goto 5, 3) := by decide +kernel
theorem dX6_undo_24 : decode cX6_undo 24 = .ok (.bipush (-5), 2) := by decide +kernel
theorem dX6_undo_26 : decode cX6_undo 26 = .ok (.ireturn, 1) := by decide +kernel
theorem dX6_save_0 : decode cX6_save 0 = .ok (.iload_n 1, 1) := by decide +kernel
theorem dX6_save_1 : decode cX6_save 1 = .ok (.iconst 0, 1) := by decide +kernel
theorem dX6_save_2 : decode cX6_save 2 = .ok (.iconst 1, 1) := by decide +kernel
theorem dX6_save_3 : decode cX6_save 3 = .ok (.invokestatic 85, 3) := by decide +kernel
theorem dX6_save_6 : decode cX6_save 6 = .ok (.ifCond .ne 6, 3) := by decide +kernel
theorem dX6_save_9 : decode cX6_save 9 = .ok (.bipush (-2), 2) := by decide +kernel
theorem dX6_save_11 : decode cX6_save 11 = .ok (.ireturn, 1) := by decide +kernel
theorem dX6_save_12 : decode cX6_save 12 = .ok (.aload_n 0, 1) := by decide +kernel
theorem dX6_save_13 : decode cX6_save 13 = .ok (.getfield 23, 3) := by decide +kernel
theorem dX6_save_16 : decode cX6_save 16 = .ok (.iload_n 1, 1) := by decide +kernel
theorem dX6_save_17 : decode cX6_save 17 = .ok (.aaload, 1) := by decide +kernel
theorem dX6_save_18 : decode cX6_save 18 = .ok (.astore_n 2, 1) := by decide +kernel
theorem dX6_save_19 : decode cX6_save 19 = .ok (.aload_n 2, 1) := by decide +kernel
theorem dX6_save_20 : decode cX6_save 20 = .ok (.ifnonnull 18, 3) := by decide +kernel
theorem dX6_save_23 : decode cX6_save 23 = .ok (.new 7, 3) := by decide +kernel
theorem dX6_save_26 : decode cX6_save 26 = .ok (.dup, 1) := by decide +kernel
theorem dX6_save_27 : decode cX6_save 27 = .ok (.invokespecial 9, 3) := by decide +kernel
theorem dX6_save_30 : decode cX6_save 30 = .ok (.astore_n 2, 1) := by decide +kernel
theorem dX6_save_31 : decode cX6_save 31 = .ok (.aload_n 0, 1) := by decide +kernel
theorem dX6_save_32 : decode cX6_save 32 = .ok (.getfield 23, 3) := by decide +kernel
theorem dX6_save_35 : decode cX6_save 35 = .ok (.iload_n 1, 1) := by decide +kernel
theorem dX6_save_36 : decode cX6_save 36 = .ok (.aload_n 2, 1) := by decide +kernel
theorem dX6_save_37 : decode cX6_save 37 = .ok (.aastore, 1) := by decide +kernel
theorem dX6_save_38 : decode cX6_save 38 = .ok (.aload_n 2, 1) := by decide +kernel
theorem dX6_save_39 : decode cX6_save 39 = .ok (.aload_n 0, 1) := by decide +kernel
theorem dX6_save_40 : decode cX6_save 40 = .ok (.getfield 10, 3) := by decide +kernel
theorem dX6_save_43 : decode cX6_save 43 = .ok (.invokevirtual 215, 3) := by decide +kernel
theorem dX6_save_46 : decode cX6_save 46 = .ok (.aload_n 0, 1) := by decide +kernel
theorem dX6_save_47 : decode cX6_save 47 = .ok (.getfield 10, 3) := by decide +kernel
theorem dX6_save_50 : decode cX6_save 50 = .ok (.getfield 152, 3) := by decide +kernel
theorem dX6_save_53 : decode cX6_save 53 = .ok (.ireturn, 1) := by decide +kernel
theorem dX6_restore_0 : decode cX6_restore 0 = .ok (.aload_n 0, 1) := by decide +kernel
theorem dX6_restore_1 : decode cX6_restore 1 = .ok (.getfield 19, 3) := by decide +kernel
theorem dX6_restore_4 : decode cX6_restore 4 = .ok (.aload_n 0, 1) := by decide +kernel
theorem dX6_restore_5 : decode cX6_restore 5 = .ok (.getfield 10, 3) := by decide +kernel
theorem dX6_restore_8 : decode cX6_restore 8 = .ok (.invokevirtual 55, 3) := by decide +kernel
theorem dX6_restore_11 : decode cX6_restore 11 = .ok (.aload_n 0, 1) := by decide +kernel
theorem dX6_restore_12 : decode cX6_restore 12 = .ok (.getfield 19, 3) := by decide +kernel
theorem dX6_restore_15 : decode cX6_restore 15 = .ok (.aload_n 0, 1) := by decide +kernel
theorem dX6_restore_16 : decode cX6_restore 16 = .ok (.iload_n 1, 1) := by decide +kernel
theorem dX6_restore_17 : decode cX6_restore 17 = .ok (.invokevirtual 217, 3) := by decide +kernel
theorem dX6_restore_20 : decode cX6_restore 20 = .ok (.invokevirtual 63, 3) := by decide +kernel
theorem dX6_restore_23 : decode cX6_restore 23 = .ok (.ireturn, 1) := by decide +kernel
theorem dX6_changeSetting_0 : decode cX6_changeSetting 0 = .ok (.iload_n 1, 1) := by decide +kernel
theorem dX6_changeSetting_1 : decode cX6_changeSetting 1 = .ok (.ifCond .ne 30, 3) := by decide +kernel
theorem dX6_changeSetting_4 : decode cX6_changeSetting 4 = .ok (.iload_n 2, 1) := by decide +kernel
theorem dX6_changeSetting_5 : decode cX6_changeSetting 5 = .ok (.iconst 0, 1) := by decide +kernel
theorem dX6_changeSetting_6 : decode cX6_changeSetting 6 = .ok (.iconst 2, 1) := by decide +kernel
theorem dX6_changeSetting_7 : decode cX6_changeSetting 7 = .ok (.invokestatic 85, 3) := by decide +kernel
theorem dX6_changeSetting_10 : decode cX6_changeSetting 10 = .ok (.ifCond .eq 21, 3) := by decide +kernel
theorem dX6_changeSetting_13 : decode cX6_changeSetting 13 = .ok (.aload_n 0, 1) := by decide +kernel
theorem dX6_changeSetting_14 : decode cX6_changeSetting 14 = .ok (.getfield 10, 3) := by decide +kernel
theorem dX6_changeSetting_17 : decode cX6_changeSetting 17 = .ok (.getfield 159, 3) := by decide +kernel
theorem dX6_changeSetting_20 : decode cX6_changeSetting 20 = .ok (.istore_n 3, 1) := by decide +kernel
theorem dX6_changeSetting_21 : decode cX6_changeSetting 21 = .ok (.aload_n 0, 1) := by decide +kernel
theorem dX6_changeSetting_22 : decode cX6_changeSetting 22 = .ok (.getfield 10, 3) := by decide +kernel
theorem dX6_changeSetting_25 : decode cX6_changeSetting 25 = .ok (.iload_n 2, 1) := by decide +kernel
theorem dX6_changeSetting_26 : decode cX6_changeSetting 26 = .ok (.putfield 159, 3) := by decide +kernel
theorem dX6_changeSetting_29 : decode cX6_changeSetting 29 = .ok (.iload_n 3, 1) := by decide +kernel
theorem dX6_changeSetting_30 : decode cX6_changeSetting 30 = .ok (.ireturn, 1) := by decide +kernel
theorem dX6_changeSetting_31 : decode cX6_changeSetting 31 = .ok (.iload_n 1, 1) := by decide +kernel
theorem dX6_changeSetting_32 : decode cX6_changeSetting 32 = .ok (.iconst 1, 1) := by decide +kernel
theorem dX6_changeSetting_33 : decode cX6_changeSetting 33 = .ok (.if_icmp .ne 31, 3) := by decide +kernel
theorem dX6_changeSetting_36 : decode cX6_changeSetting 36 = .ok (.iload_n 2, 1) := by decide +kernel
theorem dX6_changeSetting_37 : decode cX6_changeSetting 37 = .ok (.iconst 0, 1) := by decide +kernel
theorem dX6_changeSetting_38 : decode cX6_changeSetting 38 = .ok (.bipush 99, 2) := by decide +kernel
theorem dX6_changeSetting_40 : decode cX6_changeSetting 40 = .ok (.invokestatic 85, 3) := by decide +kernel
theorem dX6_changeSetting_43 : decode cX6_changeSetting 43 = .ok (.ifCond .eq 21, 3) := by decide +kernel
theorem dX6_changeSetting_46 : decode cX6_changeSetting 46 = .ok (.aload_n 0, 1) := by decide +kernel
theorem dX6_changeSetting_47 : decode cX6_changeSetting 47 = .ok (.getfield 10, 3) := by decide +kernel
theorem dX6_changeSetting_50 : decode cX6_changeSetting 50 = .ok (.getfield 162, 3) := by decide +kernel
theorem dX6_changeSetting_53 : decode cX6_changeSetting 53 = .ok (.istore_n 3, 1) := by decide +kernel
theorem dX6_changeSetting_54 : decode cX6_changeSetting 54 = .ok (.aload_n 0, 1) := by decide +kernel
theorem dX6_changeSetting_55 : decode cX6_changeSetting 55 = .ok (.getfield 10, 3) := by decide +kernel
theorem dX6_changeSetting_58 : decode cX6_changeSetting 58 = .ok (.iload_n 2, 1) := by decide +kernel
theorem dX6_changeSetting_59 : decode cX6_changeSetting 59 = .ok (.putfield 162, 3) := by decide +kernel
theorem dX6_changeSetting_62 : decode cX6_changeSetting 62 = .ok (.iload_n 3, 1) := by decide +kernel
theorem dX6_changeSetting_63 : decode cX6_changeSetting 63 = .ok (.ireturn, 1) := by decide +kernel
theorem dX6_changeSetting_64 : decode cX6_changeSetting 64 = .ok (.bipush (-2), 2) := by decide +kernel
theorem dX6_changeSetting_66 : decode cX6_changeSetting 66 = .ok (.ireturn, 1) := by decide +kernel
theorem dX6_addChapter_0 : decode cX6_addChapter 0 = .ok (.iload_n 1, 1) := by decide +kernel
theorem dX6_addChapter_1 : decode cX6_addChapter 1 = .ok (.iconst 0, 1) := by decide +kernel
theorem dX6_addChapter_2 : decode cX6_addChapter 2 = .ok (.ldc 84, 2) := by decide +kernel
theorem dX6_addChapter_4 : decode cX6_addChapter 4 = .ok (.invokestatic 85, 3) := by decide +kernel
theorem dX6_addChapter_7 : decode cX6_addChapter 7 = .ok (.ifCond .ne 6, 3) := by decide +kernel
theorem dX6_addChapter_10 : decode cX6_addChapter 10 = .ok (.bipush (-2), 2) := by decide +kernel
theorem dX6_addChapter_12 : decode cX6_addChapter 12 = .ok (.ireturn, 1) := by decide +kernel
theorem dX6_addChapter_13 : decode cX6_addChapter 13 = .ok (.aload_n 0, 1) := by decide +kernel
theorem dX6_addChapter_14 : decode cX6_addChapter 14 = .ok (.getfield 10, 3) := by decide +kernel
theorem dX6_addChapter_17 : decode cX6_addChapter 17 = .ok (.getfield 152, 3) := by decide +kernel
theorem dX6_addChapter_20 : decode cX6_addChapter 20 = .ok (.ifCond .le 6, 3) := by decide +kernel
theorem dX6_addChapter_23 : decode cX6_addChapter 23 = .ok (.bipush (-5), 2) := by decide +kernel
theorem dX6_addChapter_25 : decode cX6_addChapter 25 = .ok (.ireturn, 1) := by decide +kernel
theorem dX6_addChapter_26 : decode cX6_addChapter 26 = .ok (.aload_n 0, 1) := by decide +kernel
theorem dX6_addChapter_27 : decode cX6_addChapter 27 = .ok (.getfield 10, 3) := by decide +kernel
theorem dX6_addChapter_30 : decode cX6_addChapter 30 = .ok (.getfield 89, 3) := by decide +kernel
theorem dX6_addChapter_33 : decode cX6_addChapter 33 = .ok (.istore_n 2, 1) := by decide +kernel
theorem dX6_addChapter_34 : decode cX6_addChapter 34 = .ok (.iload_n 2, 1) := by decide +kernel
theorem dX6_addChapter_35 : decode cX6_addChapter 35 = .ok (.iconst 0, 1) := by decide +kernel
theorem dX6_addChapter_36 : decode cX6_addChapter 36 = .ok (.bipush 15, 2) := by decide +kernel
theorem dX6_addChapter_38 : decode cX6_addChapter 38 = .ok (.invokestatic 85, 3) := by decide +kernel
theorem dX6_addChapter_41 : decode cX6_addChapter 41 = .ok (.ifCond .ne 6, 3) := by decide +kernel
theorem dX6_addChapter_44 : decode cX6_addChapter 44 = .ok (.bipush (-4), 2) := by decide +kernel
theorem dX6_addChapter_46 : decode cX6_addChapter 46 = .ok (.ireturn, 1) := by decide +kernel
theorem dX6_addChapter_47 : decode cX6_addChapter 47 = .ok (.aload_n 0, 1) := by decide +kernel
theorem dX6_addChapter_48 : decode cX6_addChapter 48 = .ok (.getfield 10, 3) := by decide +kernel
theorem dX6_addChapter_51 : decode cX6_addChapter 51 = .ok (.getfield 220, 3) := by decide +kernel
theorem dX6_addChapter_54 : decode cX6_addChapter 54 = .ok (.iload_n 2, 1) := by decide +kernel
theorem dX6_addChapter_55 : decode cX6_addChapter 55 = .ok (.iload_n 1, 1) := by decide +kernel
theorem dX6_addChapter_56 : decode cX6_addChapter 56 = .ok (.iastore, 1) := by decide +kernel
theorem dX6_addChapter_57 : decode cX6_addChapter 57 = .ok (.aload_n 0, 1) := by decide +kernel
theorem dX6_addChapter_58 : decode cX6_addChapter 58 = .ok (.getfield 10, 3) := by decide +kernel
theorem dX6_addChapter_61 : decode cX6_addChapter 61 = .ok (.dup, 1) := by decide +kernel
theorem dX6_addChapter_62 : decode cX6_addChapter 62 = .ok (.getfield 89, 3) := by decide +kernel
theorem dX6_addChapter_65 : decode cX6_addChapter 65 = .ok (.iconst 1, 1) := by decide +kernel
theorem dX6_addChapter_66 : decode cX6_addChapter 66 = .ok (.iadd, 1) := by decide +kernel
theorem dX6_addChapter_67 : decode cX6_addChapter 67 = .ok (.putfield 89, 3) := by decide +kernel
theorem dX6_addChapter_70 : decode cX6_addChapter 70 = .ok (.iload_n 2, 1) := by decide +kernel
theorem dX6_addChapter_71 : decode cX6_addChapter 71 = .ok (.ireturn, 1) := by decide +kernel
theorem dX6_addCup_0 : decode cX6_addCup 0 = .ok (.aload_n 0, 1) := by decide +kernel
theorem dX6_addCup_1 : decode cX6_addCup 1 = .ok (.getfield 10, 3) := by decide +kernel
theorem dX6_addCup_4 : decode cX6_addCup 4 = .ok (.getfield 152, 3) := by decide +kernel
theorem dX6_addCup_7 : decode cX6_addCup 7 = .ok (.iconst 3, 1) := by decide +kernel
theorem dX6_addCup_8 : decode cX6_addCup 8 = .ok (.if_icmp .lt 6, 3) := by decide +kernel
theorem dX6_addCup_11 : decode cX6_addCup 11 = .ok (.bipush (-4), 2) := by decide +kernel
theorem dX6_addCup_13 : decode cX6_addCup 13 = .ok (.ireturn, 1) := by decide +kernel
theorem dX6_addCup_14 : decode cX6_addCup 14 = .ok (.aload_n 0, 1) := by decide +kernel
theorem dX6_addCup_15 : decode cX6_addCup 15 = .ok (.getfield 10, 3) := by decide +kernel
theorem dX6_addCup_18 : decode cX6_addCup 18 = .ok (.getfield 152, 3) := by decide +kernel
theorem dX6_addCup_21 : decode cX6_addCup 21 = .ok (.istore_n 1, 1) := by decide +kernel
theorem dX6_addCup_22 : decode cX6_addCup 22 = .ok (.aload_n 0, 1) := by decide +kernel
theorem dX6_addCup_23 : decode cX6_addCup 23 = .ok (.getfield 10, 3) := by decide +kernel
theorem dX6_addCup_26 : decode cX6_addCup 26 = .ok (.dup, 1) := by decide +kernel
theorem dX6_addCup_27 : decode cX6_addCup 27 = .ok (.getfield 152, 3) := by decide +kernel
theorem dX6_addCup_30 : decode cX6_addCup 30 = .ok (.iconst 1, 1) := by decide +kernel
theorem dX6_addCup_31 : decode cX6_addCup 31 = .ok (.iadd, 1) := by decide +kernel
theorem dX6_addCup_32 : decode cX6_addCup 32 = .ok (.putfield 152, 3) := by decide +kernel
theorem dX6_addCup_35 : decode cX6_addCup 35 = .ok (.iload_n 1, 1) := by decide +kernel
theorem dX6_addCup_36 : decode cX6_addCup 36 = .ok (.ireturn, 1) := by decide +kernel
theorem dX6_emptyCup_0 : decode cX6_emptyCup 0 = .ok (.aload_n 0, 1) := by decide +kernel
theorem dX6_emptyCup_1 : decode cX6_emptyCup 1 = .ok (.getfield 10, 3) := by decide +kernel
theorem dX6_emptyCup_4 : decode cX6_emptyCup 4 = .ok (.iload_n 1, 1) := by decide +kernel
theorem dX6_emptyCup_5 : decode cX6_emptyCup 5 = .ok (.invokevirtual 110, 3) := by decide +kernel
theorem dX6_emptyCup_8 : decode cX6_emptyCup 8 = .ok (.astore_n 2, 1) := by decide +kernel
theorem dX6_emptyCup_9 : decode cX6_emptyCup 9 = .ok (.aload_n 2, 1) := by decide +kernel
theorem dX6_emptyCup_10 : decode cX6_emptyCup 10 = .ok (.ifnonnull 5, 3) := by decide +kernel
theorem dX6_emptyCup_13 : decode cX6_emptyCup 13 = .ok (.iconst (-1), 1) := by decide +kernel
theorem dX6_emptyCup_14 : decode cX6_emptyCup 14 = .ok (.ireturn, 1) := by decide +kernel
theorem dX6_emptyCup_15 : decode cX6_emptyCup 15 = .ok (.aload_n 2, 1) := by decide +kernel
theorem dX6_emptyCup_16 : decode cX6_emptyCup 16 = .ok (.invokevirtual 136, 3) := by decide +kernel
theorem dX6_emptyCup_19 : decode cX6_emptyCup 19 = .ok (.istore_n 3, 1) := by decide +kernel
theorem dX6_emptyCup_20 : decode cX6_emptyCup 20 = .ok (.aload_n 2, 1) := by decide +kernel
theorem dX6_emptyCup_21 : decode cX6_emptyCup 21 = .ok (.invokevirtual 223, 3) := by decide +kernel
theorem dX6_emptyCup_24 : decode cX6_emptyCup 24 = .ok (.iload_n 3, 1) := by decide +kernel
theorem dX6_emptyCup_25 : decode cX6_emptyCup 25 = .ok (.ireturn, 1) := by decide +kernel
theorem dX6_pourDroplets_0 : decode cX6_pourDroplets 0 = .ok (.aload_n 0, 1) := by decide +kernel
theorem dX6_pourDroplets_1 : decode cX6_pourDroplets 1 = .ok (.getfield 10, 3) := by decide +kernel
theorem dX6_pourDroplets_4 : decode cX6_pourDroplets 4 = .ok (.iload_n 1, 1) := by decide +kernel
theorem dX6_pourDroplets_5 : decode cX6_pourDroplets 5 = .ok (.invokevirtual 110, 3) := by decide +kernel
theorem dX6_pourDroplets_8 : decode cX6_pourDroplets 8 = .ok (.astore 4, 2) := by decide +kernel
theorem dX6_pourDroplets_10 : decode cX6_pourDroplets 10 = .ok (.aload 4, 2) := by decide +kernel
theorem dX6_pourDroplets_12 : decode cX6_pourDroplets 12 = .ok (.ifnonnull 5, 3) := by decide +kernel
theorem dX6_pourDroplets_15 : decode cX6_pourDroplets 15 = .ok (.iconst (-1), 1) := by decide +kernel
theorem dX6_pourDroplets_16 : decode cX6_pourDroplets 16 = .ok (.ireturn, 1) := by decide +kernel
theorem dX6_pourDroplets_17 : decode cX6_pourDroplets 17 = .ok (.aload_n 0, 1) := by decide +kernel
theorem dX6_pourDroplets_18 : decode cX6_pourDroplets 18 = .ok (.iload_n 2, 1) := by decide +kernel
theorem dX6_pourDroplets_19 : decode cX6_pourDroplets 19 = .ok (.iload_n 3, 1) := by decide +kernel
theorem dX6_pourDroplets_20 : decode cX6_pourDroplets 20 = .ok (.invokevirtual 171, 3) := by decide +kernel
theorem dX6_pourDroplets_23 : decode cX6_pourDroplets 23 = .ok (.istore 5, 2) := by decide +kernel
theorem dX6_pourDroplets_25 : decode cX6_pourDroplets 25 = .ok (.iload 5, 2) := by decide +kernel
theorem dX6_pourDroplets_27 : decode cX6_pourDroplets 27 = .ok (.ifCond .ge 6, 3) := by decide +kernel
theorem dX6_pourDroplets_30 : decode cX6_pourDroplets 30 = .ok (.iload 5, 2) := by decide +kernel
theorem dX6_pourDroplets_32 : decode cX6_pourDroplets 32 = .ok (.ireturn, 1) := by decide +kernel
theorem dX6_pourDroplets_33 : decode cX6_pourDroplets 33 = .ok (.iconst 0, 1) := by decide +kernel
theorem dX6_pourDroplets_34 : decode cX6_pourDroplets 34 = .ok (.istore 6, 2) := by decide +kernel
theorem dX6_pourDroplets_36 : decode cX6_pourDroplets 36 = .ok (.iconst 0, 1) := by decide +kernel
theorem dX6_pourDroplets_37 : decode cX6_pourDroplets 37 = .ok (.istore 7, 2) := by decide +kernel
theorem dX6_pourDroplets_39 : decode cX6_pourDroplets 39 = .ok (.iload 7, 2) := by decide +kernel
theorem dX6_pourDroplets_41 : decode cX6_pourDroplets 41 = .ok (.iload_n 3, 1) := by decide +kernel
theorem dX6_pourDroplets_42 : decode cX6_pourDroplets 42 = .ok (.if_icmp .ge 41, 3) := by decide +kernel
theorem dX6_pourDroplets_45 : decode cX6_pourDroplets 45 = .ok (.aload_n 0, 1) := by decide +kernel
theorem dX6_pourDroplets_46 : decode cX6_pourDroplets 46 = .ok (.getfield 37, 3) := by decide +kernel
theorem dX6_pourDroplets_49 : decode cX6_pourDroplets 49 = .ok (.aload_n 0, 1) := by decide +kernel
theorem dX6_pourDroplets_50 : decode cX6_pourDroplets 50 = .ok (.getfield 10, 3) := by decide +kernel
theorem dX6_pourDroplets_53 : decode cX6_pourDroplets 53 = .ok (.iload_n 2, 1) := by decide +kernel
theorem dX6_pourDroplets_54 : decode cX6_pourDroplets 54 = .ok (.iload 7, 2) := by decide +kernel
theorem dX6_pourDroplets_56 : decode cX6_pourDroplets 56 = .ok (.iadd, 1) := by decide +kernel
theorem dX6_pourDroplets_57 : decode cX6_pourDroplets 57 = .ok (.invokestatic 181, 3) := by decide +kernel
theorem dX6_pourDroplets_60 : decode cX6_pourDroplets 60 = .ok (.invokevirtual 93, 3) := by decide +kernel
theorem dX6_pourDroplets_63 : decode cX6_pourDroplets 63 = .ok (.iload 6, 2) := by decide +kernel
theorem dX6_pourDroplets_65 : decode cX6_pourDroplets 65 = .ok (.aload 4, 2) := by decide +kernel
theorem dX6_pourDroplets_67 : decode cX6_pourDroplets 67 = .ok (.aload_n 0, 1) := by decide +kernel
theorem dX6_pourDroplets_68 : decode cX6_pourDroplets 68 = .ok (.getfield 37, 3) := by decide +kernel
theorem dX6_pourDroplets_71 : decode cX6_pourDroplets 71 = .ok (.invokevirtual 177, 3) := by decide +kernel
theorem dX6_pourDroplets_74 : decode cX6_pourDroplets 74 = .ok (.iadd, 1) := by decide +kernel
theorem dX6_pourDroplets_75 : decode cX6_pourDroplets 75 = .ok (.istore 6, 2) := by decide +kernel
theorem dX6_pourDroplets_77 : decode cX6_pourDroplets 77 = .ok (.iinc 7 1, 3) := by decide +kernel
theorem dX6_pourDroplets_80 : decode cX6_pourDroplets 80 = .ok (.goto (-41), 3) := by decide +kernel
theorem dX6_pourDroplets_83 : decode cX6_pourDroplets 83 = .ok (.aload_n 0, 1) := by decide +kernel
theorem dX6_pourDroplets_84 : decode cX6_pourDroplets 84 = .ok (.getfield 10, 3) := by decide +kernel
theorem dX6_pourDroplets_87 : decode cX6_pourDroplets 87 = .ok (.dup, 1) := by decide +kernel
theorem dX6_pourDroplets_88 : decode cX6_pourDroplets 88 = .ok (.getfield 158, 3) := by decide +kernel
theorem dX6_pourDroplets_91 : decode cX6_pourDroplets 91 = .ok (.iload_n 3, 1) := by decide +kernel
theorem dX6_pourDroplets_92 : decode cX6_pourDroplets 92 = .ok (.iadd, 1) := by decide +kernel
theorem dX6_pourDroplets_93 : decode cX6_pourDroplets 93 = .ok (.putfield 158, 3) := by decide +kernel
theorem dX6_pourDroplets_96 : decode cX6_pourDroplets 96 = .ok (.iload 6, 2) := by decide +kernel
theorem dX6_pourDroplets_98 : decode cX6_pourDroplets 98 = .ok (.ireturn, 1) := by decide +kernel
theorem dX6_solveCup_0 : decode cX6_solveCup 0 = .ok (.aload_n 0, 1) := by decide +kernel
theorem dX6_solveCup_1 : decode cX6_solveCup 1 = .ok (.getfield 10, 3) := by decide +kernel
theorem dX6_solveCup_4 : decode cX6_solveCup 4 = .ok (.iload_n 1, 1) := by decide +kernel
theorem dX6_solveCup_5 : decode cX6_solveCup 5 = .ok (.invokevirtual 110, 3) := by decide +kernel
theorem dX6_solveCup_8 : decode cX6_solveCup 8 = .ok (.astore_n 2, 1) := by decide +kernel
theorem dX6_solveCup_9 : decode cX6_solveCup 9 = .ok (.aload_n 2, 1) := by decide +kernel
theorem dX6_solveCup_10 : decode cX6_solveCup 10 = .ok (.ifnonnull 5, 3) := by decide +kernel
theorem dX6_solveCup_13 : decode cX6_solveCup 13 = .ok (.iconst (-1), 1) := by decide +kernel
theorem dX6_solveCup_14 : decode cX6_solveCup 14 = .ok (.ireturn, 1) := by decide +kernel
theorem dX6_solveCup_15 : decode cX6_solveCup 15 = .ok (.aload_n 0, 1) := by decide +kernel
theorem dX6_solveCup_16 : decode cX6_solveCup 16 = .ok (.getfield 51, 3) := by decide +kernel
theorem dX6_solveCup_19 : decode cX6_solveCup 19 = .ok (.aload_n 2, 1) := by decide +kernel
theorem dX6_solveCup_20 : decode cX6_solveCup 20 = .ok (.invokevirtual 132, 3) := by decide +kernel
theorem dX6_solveCup_23 : decode cX6_solveCup 23 = .ok (.aload_n 2, 1) := by decide +kernel
theorem dX6_solveCup_24 : decode cX6_solveCup 24 = .ok (.aload_n 0, 1) := by decide +kernel
theorem dX6_solveCup_25 : decode cX6_solveCup 25 = .ok (.getfield 51, 3) := by decide +kernel
theorem dX6_solveCup_28 : decode cX6_solveCup 28 = .ok (.invokevirtual 226, 3) := by decide +kernel
theorem dX6_solveCup_31 : decode cX6_solveCup 31 = .ok (.ireturn, 1) := by decide +kernel
theorem dX6_restoreFrom_0 : decode cX6_restoreFrom 0 = .ok (.iload_n 1, 1) := by decide +kernel
theorem dX6_restoreFrom_1 : decode cX6_restoreFrom 1 = .ok (.iconst 0, 1) := by decide +kernel
theorem dX6_restoreFrom_2 : decode cX6_restoreFrom 2 = .ok (.iconst 1, 1) := by decide +kernel
theorem dX6_restoreFrom_3 : decode cX6_restoreFrom 3 = .ok (.invokestatic 85, 3) := by decide +kernel
theorem dX6_restoreFrom_6 : decode cX6_restoreFrom 6 = .ok (.ifCond .ne 6, 3) := by decide +kernel
theorem dX6_restoreFrom_9 : decode cX6_restoreFrom 9 = .ok (.bipush (-2), 2) := by decide +kernel
theorem dX6_restoreFrom_11 : decode cX6_restoreFrom 11 = .ok (.ireturn, 1) := by decide +kernel
theorem dX6_restoreFrom_12 : decode cX6_restoreFrom 12 = .ok (.aload_n 0, 1) := by decide +kernel
theorem dX6_restoreFrom_13 : decode cX6_restoreFrom 13 = .ok (.getfield 23, 3) := by decide +kernel
theorem dX6_restoreFrom_16 : decode cX6_restoreFrom 16 = .ok (.iload_n 1, 1) := by decide +kernel
theorem dX6_restoreFrom_17 : decode cX6_restoreFrom 17 = .ok (.aaload, 1) := by decide +kernel
theorem dX6_restoreFrom_18 : decode cX6_restoreFrom 18 = .ok (.astore_n 2, 1) := by decide +kernel
theorem dX6_restoreFrom_19 : decode cX6_restoreFrom 19 = .ok (.aload_n 2, 1) := by decide +kernel
theorem dX6_restoreFrom_20 : decode cX6_restoreFrom 20 = .ok (.ifnonnull 6, 3) := by decide +kernel
theorem dX6_restoreFrom_23 : decode cX6_restoreFrom 23 = .ok (.bipush (-5), 2) := by decide +kernel
theorem dX6_restoreFrom_25 : decode cX6_restoreFrom 25 = .ok (.ireturn, 1) := by decide +kernel
theorem dX6_restoreFrom_26 : decode cX6_restoreFrom 26 = .ok (.aload_n 0, 1) := by decide +kernel
theorem dX6_restoreFrom_27 : decode cX6_restoreFrom 27 = .ok (.getfield 10, 3) := by decide +kernel
theorem dX6_restoreFrom_30 : decode cX6_restoreFrom 30 = .ok (.aload_n 2, 1) := by decide +kernel
theorem dX6_restoreFrom_31 : decode cX6_restoreFrom 31 = .ok (.invokevirtual 215, 3) := by decide +kernel
theorem dX6_restoreFrom_34 : decode cX6_restoreFrom 34 = .ok (.aload_n 0, 1) := by decide +kernel
theorem dX6_restoreFrom_35 : decode cX6_restoreFrom 35 = .ok (.getfield 10, 3) := by decide +kernel
theorem dX6_restoreFrom_38 : decode cX6_restoreFrom 38 = .ok (.getfield 152, 3) := by decide +kernel
theorem dX6_restoreFrom_41 : decode cX6_restoreFrom 41 = .ok (.ireturn, 1) := by decide +kernel
theorem dX6_carryOneOut_0 : decode cX6_carryOneOut 0 = .ok (.aload_n 0, 1) := by decide +kernel
theorem dX6_carryOneOut_1 : decode cX6_carryOneOut 1 = .ok (.getfield 30, 3) := by decide +kernel
theorem dX6_carryOneOut_4 : decode cX6_carryOneOut 4 = .ok (.getfield 230, 3) := by decide +kernel
theorem dX6_carryOneOut_7 : decode cX6_carryOneOut 7 = .ok (.lookupswitch 76 #[(99, 33), (112, 50), (117, 45)], 33) := by decide +kernel
theorem dX6_carryOneOut_40 : decode cX6_carryOneOut 40 = .ok (.aload_n 0, 1) := by decide +kernel
theorem dX6_carryOneOut_41 : decode cX6_carryOneOut 41 = .ok (.aload_n 0, 1) := by decide +kernel
theorem dX6_carryOneOut_42 : decode cX6_carryOneOut 42 = .ok (.getfield 30, 3) := by decide +kernel
theorem dX6_carryOneOut_45 : decode cX6_carryOneOut 45 = .ok (.getfield 234, 3) := by decide +kernel
theorem dX6_carryOneOut_48 : decode cX6_carryOneOut 48 = .ok (.invokevirtual 67, 3) := by decide +kernel
theorem dX6_carryOneOut_51 : decode cX6_carryOneOut 51 = .ok (.ireturn, 1) := by decide +kernel
theorem dX6_carryOneOut_52 : decode cX6_carryOneOut 52 = .ok (.aload_n 0, 1) := by decide +kernel
theorem dX6_carryOneOut_53 : decode cX6_carryOneOut 53 = .ok (.invokevirtual 70, 3) := by decide +kernel
theorem dX6_carryOneOut_56 : decode cX6_carryOneOut 56 = .ok (.ireturn, 1) := by decide +kernel
theorem dX6_carryOneOut_57 : decode cX6_carryOneOut 57 = .ok (.aload_n 0, 1) := by decide +kernel
theorem dX6_carryOneOut_58 : decode cX6_carryOneOut 58 = .ok (.aload_n 0, 1) := by decide +kernel
theorem dX6_carryOneOut_59 : decode cX6_carryOneOut 59 = .ok (.getfield 30, 3) := by decide +kernel
theorem dX6_carryOneOut_62 : decode cX6_carryOneOut 62 = .ok (.getfield 235, 3) := by decide +kernel
theorem dX6_carryOneOut_65 : decode cX6_carryOneOut 65 = .ok (.aload_n 0, 1) := by decide +kernel
theorem dX6_carryOneOut_66 : decode cX6_carryOneOut 66 = .ok (.getfield 30, 3) := by decide +kernel
theorem dX6_carryOneOut_69 : decode cX6_carryOneOut 69 = .ok (.getfield 234, 3) := by decide +kernel
theorem dX6_carryOneOut_72 : decode cX6_carryOneOut 72 = .ok (.aload_n 0, 1) := by decide +kernel
theorem dX6_carryOneOut_73 : decode cX6_carryOneOut 73 = .ok (.getfield 30, 3) := by decide +kernel
theorem dX6_carryOneOut_76 : decode cX6_carryOneOut 76 = .ok (.getfield 238, 3) := by decide +kernel
theorem dX6_carryOneOut_79 : decode cX6_carryOneOut 79 = .ok (.invokevirtual 77, 3) := by decide +kernel
theorem dX6_carryOneOut_82 : decode cX6_carryOneOut 82 = .ok (.ireturn, 1) := by decide +kernel
theorem dX6_carryOneOut_83 : decode cX6_carryOneOut 83 = .ok (.aload_n 0, 1) := by decide +kernel
theorem dX6_carryOneOut_84 : decode cX6_carryOneOut 84 = .ok (.aload_n 0, 1) := by decide +kernel
theorem dX6_carryOneOut_85 : decode cX6_carryOneOut 85 = .ok (.getfield 30, 3) := by decide +kernel
theorem dX6_carryOneOut_88 : decode cX6_carryOneOut 88 = .ok (.getfield 235, 3) := by decide +kernel
theorem dX6_carryOneOut_91 : decode cX6_carryOneOut 91 = .ok (.invokevirtual 81, 3) := by decide +kernel
theorem dX6_carryOneOut_94 : decode cX6_carryOneOut 94 = .ok (.ireturn, 1) := by decide +kernel
theorem dX6_errorOfDroplets_0 : decode cX6_errorOfDroplets 0 = .ok (.iload_n 1, 1) := by decide +kernel
theorem dX6_errorOfDroplets_1 : decode cX6_errorOfDroplets 1 = .ok (.iconst 0, 1) := by decide +kernel
theorem dX6_errorOfDroplets_2 : decode cX6_errorOfDroplets 2 = .ok (.ldc 84, 2) := by decide +kernel
theorem dX6_errorOfDroplets_4 : decode cX6_errorOfDroplets 4 = .ok (.invokestatic 85, 3) := by decide +kernel
theorem dX6_errorOfDroplets_7 : decode cX6_errorOfDroplets 7 = .ok (.ifCond .eq 13, 3) := by decide +kernel
theorem dX6_errorOfDroplets_10 : decode cX6_errorOfDroplets 10 = .ok (.iload_n 2, 1) := by decide +kernel
theorem dX6_errorOfDroplets_11 : decode cX6_errorOfDroplets 11 = .ok (.iconst 1, 1) := by decide +kernel
theorem dX6_errorOfDroplets_12 : decode cX6_errorOfDroplets 12 = .ok (.bipush 99, 2) := by decide +kernel
theorem dX6_errorOfDroplets_14 : decode cX6_errorOfDroplets 14 = .ok (.invokestatic 85, 3) := by decide +kernel
theorem dX6_errorOfDroplets_17 : decode cX6_errorOfDroplets 17 = .ok (.ifCond .ne 6, 3) := by decide +kernel
theorem dX6_errorOfDroplets_20 : decode cX6_errorOfDroplets 20 = .ok (.bipush (-2), 2) := by decide +kernel
theorem dX6_errorOfDroplets_22 : decode cX6_errorOfDroplets 22 = .ok (.ireturn, 1) := by decide +kernel
theorem dX6_errorOfDroplets_23 : decode cX6_errorOfDroplets 23 = .ok (.aload_n 0, 1) := by decide +kernel
theorem dX6_errorOfDroplets_24 : decode cX6_errorOfDroplets 24 = .ok (.getfield 10, 3) := by decide +kernel
theorem dX6_errorOfDroplets_27 : decode cX6_errorOfDroplets 27 = .ok (.getfield 89, 3) := by decide +kernel
theorem dX6_errorOfDroplets_30 : decode cX6_errorOfDroplets 30 = .ok (.ifCond .ne 8, 3) := by decide +kernel
theorem dX6_errorOfDroplets_33 : decode cX6_errorOfDroplets 33 = .ok (.bipush (-5), 2) := by decide +kernel
theorem dX6_errorOfDroplets_35 : decode cX6_errorOfDroplets 35 = .ok (.goto 4, 3) := by decide +kernel
theorem dX6_errorOfDroplets_38 : decode cX6_errorOfDroplets 38 = .ok (.iconst 0, 1) := by decide +kernel
theorem dX6_errorOfDroplets_39 : decode cX6_errorOfDroplets 39 = .ok (.ireturn, 1) := by decide +kernel
theorem dX6_isFull_0 : decode cX6_isFull 0 = .ok (.aload_n 1, 1) := by decide +kernel
theorem dX6_isFull_1 : decode cX6_isFull 1 = .ok (.getfield 114, 3) := by decide +kernel
theorem dX6_isFull_4 : decode cX6_isFull 4 = .ok (.aload_n 0, 1) := by decide +kernel
theorem dX6_isFull_5 : decode cX6_isFull 5 = .ok (.getfield 10, 3) := by decide +kernel
theorem dX6_isFull_8 : decode cX6_isFull 8 = .ok (.invokevirtual 241, 3) := by decide +kernel
theorem dX6_isFull_11 : decode cX6_isFull 11 = .ok (.if_icmp .ne 7, 3) := by decide +kernel
theorem dX6_isFull_14 : decode cX6_isFull 14 = .ok (.iconst 1, 1) := by decide +kernel
theorem dX6_isFull_15 : decode cX6_isFull 15 = .ok (.goto 4, 3) := by decide +kernel
theorem dX6_isFull_18 : decode cX6_isFull 18 = .ok (.iconst 0, 1) := by decide +kernel
theorem dX6_isFull_19 : decode cX6_isFull 19 = .ok (.ireturn, 1) := by decide +kernel
theorem dX6_fullCups_0 : decode cX6_fullCups 0 = .ok (.iconst 0, 1) := by decide +kernel
theorem dX6_fullCups_1 : decode cX6_fullCups 1 = .ok (.istore_n 1, 1) := by decide +kernel
theorem dX6_fullCups_2 : decode cX6_fullCups 2 = .ok (.iconst 0, 1) := by decide +kernel
theorem dX6_fullCups_3 : decode cX6_fullCups 3 = .ok (.istore_n 2, 1) := by decide +kernel
theorem dX6_fullCups_4 : decode cX6_fullCups 4 = .ok (.iload_n 2, 1) := by decide +kernel
theorem dX6_fullCups_5 : decode cX6_fullCups 5 = .ok (.iconst 3, 1) := by decide +kernel
theorem dX6_fullCups_6 : decode cX6_fullCups 6 = .ok (.if_icmp .ge 36, 3) := by decide +kernel
theorem dX6_fullCups_9 : decode cX6_fullCups 9 = .ok (.aload_n 0, 1) := by decide +kernel
theorem dX6_fullCups_10 : decode cX6_fullCups 10 = .ok (.getfield 10, 3) := by decide +kernel
theorem dX6_fullCups_13 : decode cX6_fullCups 13 = .ok (.iload_n 2, 1) := by decide +kernel
theorem dX6_fullCups_14 : decode cX6_fullCups 14 = .ok (.invokevirtual 110, 3) := by decide +kernel
theorem dX6_fullCups_17 : decode cX6_fullCups 17 = .ok (.astore_n 3, 1) := by decide +kernel
theorem dX6_fullCups_18 : decode cX6_fullCups 18 = .ok (.aload_n 3, 1) := by decide +kernel
theorem dX6_fullCups_19 : decode cX6_fullCups 19 = .ok (.ifnull 17, 3) := by decide +kernel
theorem dX6_fullCups_22 : decode cX6_fullCups 22 = .ok (.aload_n 0, 1) := by decide +kernel
theorem dX6_fullCups_23 : decode cX6_fullCups 23 = .ok (.aload_n 3, 1) := by decide +kernel
theorem dX6_fullCups_24 : decode cX6_fullCups 24 = .ok (.invokevirtual 128, 3) := by decide +kernel
theorem dX6_fullCups_27 : decode cX6_fullCups 27 = .ok (.ifCond .eq 9, 3) := by decide +kernel
theorem dX6_fullCups_30 : decode cX6_fullCups 30 = .ok (.iload_n 1, 1) := by decide +kernel
theorem dX6_fullCups_31 : decode cX6_fullCups 31 = .ok (.iconst 1, 1) := by decide +kernel
theorem dX6_fullCups_32 : decode cX6_fullCups 32 = .ok (.iload_n 2, 1) := by decide +kernel
theorem dX6_fullCups_33 : decode cX6_fullCups 33 = .ok (.ishl, 1) := by decide +kernel
theorem dX6_fullCups_34 : decode cX6_fullCups 34 = .ok (.ior, 1) := by decide +kernel
theorem dX6_fullCups_35 : decode cX6_fullCups 35 = .ok (.istore_n 1, 1) := by decide +kernel
theorem dX6_fullCups_36 : decode cX6_fullCups 36 = .ok (.iinc 2 1, 3) := by decide +kernel
theorem dX6_fullCups_39 : decode cX6_fullCups 39 = .ok (.goto (-35), 3) := by decide +kernel
theorem dX6_fullCups_42 : decode cX6_fullCups 42 = .ok (.iload_n 1, 1) := by decide +kernel
theorem dX6_fullCups_43 : decode cX6_fullCups 43 = .ok (.ireturn, 1) := by decide +kernel
theorem dX6_isWithin_0 : decode cX6_isWithin 0 = .ok (.iload_n 0, 1) := by decide +kernel
theorem dX6_isWithin_1 : decode cX6_isWithin 1 = .ok (.iload_n 1, 1) := by decide +kernel
theorem dX6_isWithin_2 : decode cX6_isWithin 2 = .ok (.if_icmp .lt 12, 3) := by decide +kernel
theorem dX6_isWithin_5 : decode cX6_isWithin 5 = .ok (.iload_n 0, 1) := by decide +kernel
theorem dX6_isWithin_6 : decode cX6_isWithin 6 = .ok (.iload_n 2, 1) := by decide +kernel
theorem dX6_isWithin_7 : decode cX6_isWithin 7 = .ok (.if_icmp .gt 7, 3) := by decide +kernel
theorem dX6_isWithin_10 : decode cX6_isWithin 10 = .ok (.iconst 1, 1) := by decide +kernel
theorem dX6_isWithin_11 : decode cX6_isWithin 11 = .ok (.goto 4, 3) := by decide +kernel
theorem dX6_isWithin_14 : decode cX6_isWithin 14 = .ok (.iconst 0, 1) := by decide +kernel
theorem dX6_isWithin_15 : decode cX6_isWithin 15 = .ok (.ireturn, 1) := by decide +kernel
theorem dX6_wrappedSeed_0 : decode cX6_wrappedSeed 0 = .ok (.iload_n 0, 1) := by decide +kernel
theorem dX6_wrappedSeed_1 : decode cX6_wrappedSeed 1 = .ok (.ldc 84, 2) := by decide +kernel
theorem dX6_wrappedSeed_3 : decode cX6_wrappedSeed 3 = .ok (.iand, 1) := by decide +kernel
theorem dX6_wrappedSeed_4 : decode cX6_wrappedSeed 4 = .ok (.ireturn, 1) := by decide +kernel
theorem dX6_charactersIn_0 : decode cX6_charactersIn 0 = .ok (.iconst 0, 1) := by decide +kernel
theorem dX6_charactersIn_1 : decode cX6_charactersIn 1 = .ok (.istore_n 2, 1) := by decide +kernel
theorem dX6_charactersIn_2 : decode cX6_charactersIn 2 = .ok (.iload_n 2, 1) := by decide +kernel
theorem dX6_charactersIn_3 : decode cX6_charactersIn 3 = .ok (.bipush 8, 2) := by decide +kernel
theorem dX6_charactersIn_5 : decode cX6_charactersIn 5 = .ok (.if_icmp .ge 42, 3) := by decide +kernel
theorem dX6_charactersIn_8 : decode cX6_charactersIn 8 = .ok (.lload_n 0, 1) := by decide +kernel
theorem dX6_charactersIn_9 : decode cX6_charactersIn 9 = .ok (.bipush 8, 2) := by decide +kernel
theorem dX6_charactersIn_11 : decode cX6_charactersIn 11 = .ok (.iload_n 2, 1) := by decide +kernel
theorem dX6_charactersIn_12 : decode cX6_charactersIn 12 = .ok (.imul, 1) := by decide +kernel
theorem dX6_charactersIn_13 : decode cX6_charactersIn 13 = .ok (.lushr, 1) := by decide +kernel
theorem dX6_charactersIn_14 : decode cX6_charactersIn 14 = .ok (.lstore_n 3, 1) := by decide +kernel
theorem dX6_charactersIn_15 : decode cX6_charactersIn 15 = .ok (.lload_n 3, 1) := by decide +kernel
theorem dX6_charactersIn_16 : decode cX6_charactersIn 16 = .ok (.lconst 0, 1) := by decide +kernel
theorem dX6_charactersIn_17 : decode cX6_charactersIn 17 = .ok (.lcmp, 1) := by decide +kernel
theorem dX6_charactersIn_18 : decode cX6_charactersIn 18 = .ok (.ifCond .ne 5, 3) := by decide +kernel
theorem dX6_charactersIn_21 : decode cX6_charactersIn 21 = .ok (.iload_n 2, 1) := by decide +kernel
theorem dX6_charactersIn_22 : decode cX6_charactersIn 22 = .ok (.ireturn, 1) := by decide +kernel
theorem dX6_charactersIn_23 : decode cX6_charactersIn 23 = .ok (.lload_n 3, 1) := by decide +kernel
theorem dX6_charactersIn_24 : decode cX6_charactersIn 24 = .ok (.ldc2_w 188, 3) := by decide +kernel
theorem dX6_charactersIn_27 : decode cX6_charactersIn 27 = .ok (.land, 1) := by decide +kernel
theorem dX6_charactersIn_28 : decode cX6_charactersIn 28 = .ok (.l2i, 1) := by decide +kernel
theorem dX6_charactersIn_29 : decode cX6_charactersIn 29 = .ok (.bipush 33, 2) := by decide +kernel
theorem dX6_charactersIn_31 : decode cX6_charactersIn 31 = .ok (.bipush 126, 2) := by decide +kernel
theorem dX6_charactersIn_33 : decode cX6_charactersIn 33 = .ok (.invokestatic 85, 3) := by decide +kernel
theorem dX6_charactersIn_36 : decode cX6_charactersIn 36 = .ok (.ifCond .ne 5, 3) := by decide +kernel
theorem dX6_charactersIn_39 : decode cX6_charactersIn 39 = .ok (.iconst 0, 1) := by decide +kernel
theorem dX6_charactersIn_40 : decode cX6_charactersIn 40 = .ok (.ireturn, 1) := by decide +kernel
theorem dX6_charactersIn_41 : decode cX6_charactersIn 41 = .ok (.iinc 2 1, 3) := by decide +kernel
theorem dX6_charactersIn_44 : decode cX6_charactersIn 44 = .ok (.goto (-42), 3) := by decide +kernel
theorem dX6_charactersIn_47 : decode cX6_charactersIn 47 = .ok (.bipush 8, 2) := by decide +kernel
theorem dX6_charactersIn_49 : decode cX6_charactersIn 49 = .ok (.ireturn, 1) := by decide +kernel
theorem dX7_init_0 : decode cX7_init 0 = .ok (.aload_n 0, 1) := by decide +kernel
theorem dX7_init_1 : decode cX7_init 1 = .ok (.invokespecial 1, 3) := by decide +kernel
theorem dX7_init_4 : decode cX7_init 4 = .ok (.aload_n 0, 1) := by decide +kernel
theorem dX7_init_5 : decode cX7_init 5 = .ok (.sipush 228, 3) := by decide +kernel
theorem dX7_init_8 : decode cX7_init 8 = .ok (.newarray .int, 2) := by decide +kernel
theorem dX7_init_10 : decode cX7_init 10 = .ok (.putfield 7, 3) := by decide +kernel
theorem dX7_init_13 : decode cX7_init 13 = .ok (.aload_n 0, 1) := by decide +kernel
theorem dX7_init_14 : decode cX7_init 14 = .ok (.sipush 1368, 3) := by decide +kernel
theorem dX7_init_17 : decode cX7_init 17 = .ok (.newarray .int, 2) := by decide +kernel
theorem dX7_init_19 : decode cX7_init 19 = .ok (.putfield 13, 3) := by decide +kernel
theorem dX7_init_22 : decode cX7_init 22 = .ok (.aload_n 0, 1) := by decide +kernel
theorem dX7_init_23 : decode cX7_init 23 = .ok (.sipush 228, 3) := by decide +kernel
theorem dX7_init_26 : decode cX7_init 26 = .ok (.newarray .int, 2) := by decide +kernel
theorem dX7_init_28 : decode cX7_init 28 = .ok (.putfield 16, 3) := by decide +kernel
theorem dX7_init_31 : decode cX7_init 31 = .ok (.aload_n 0, 1) := by decide +kernel
theorem dX7_init_32 : decode cX7_init 32 = .ok (.sipush 228, 3) := by decide +kernel
theorem dX7_init_35 : decode cX7_init 35 = .ok (.newarray .int, 2) := by decide +kernel
theorem dX7_init_37 : decode cX7_init 37 = .ok (.putfield 19, 3) := by decide +kernel
theorem dX7_init_40 : decode cX7_init 40 = .ok (.aload_n 0, 1) := by decide +kernel
theorem dX7_init_41 : decode cX7_init 41 = .ok (.sipush 456, 3) := by decide +kernel
theorem dX7_init_44 : decode cX7_init 44 = .ok (.newarray .int, 2) := by decide +kernel
theorem dX7_init_46 : decode cX7_init 46 = .ok (.putfield 22, 3) := by decide +kernel
theorem dX7_init_49 : decode cX7_init 49 = .ok (.aload_n 0, 1) := by decide +kernel
theorem dX7_init_50 : decode cX7_init 50 = .ok (.iconst 2, 1) := by decide +kernel
theorem dX7_init_51 : decode cX7_init 51 = .ok (.newarray .boolean, 2) := by decide +kernel
theorem dX7_init_53 : decode cX7_init 53 = .ok (.putfield 25, 3) := by decide +kernel
theorem dX7_init_56 : decode cX7_init 56 = .ok (.aload_n 0, 1) := by decide +kernel
theorem dX7_init_57 : decode cX7_init 57 = .ok (.bipush 80, 2) := by decide +kernel
theorem dX7_init_59 : decode cX7_init 59 = .ok (.newarray .int, 2) := by decide +kernel
theorem dX7_init_61 : decode cX7_init 61 = .ok (.putfield 29, 3) := by decide +kernel
theorem dX7_init_64 : decode cX7_init 64 = .ok (.aload_n 0, 1) := by decide +kernel
theorem dX7_init_65 : decode cX7_init 65 = .ok (.bipush 8, 2) := by decide +kernel
theorem dX7_init_67 : decode cX7_init 67 = .ok (.newarray .int, 2) := by decide +kernel
theorem dX7_init_69 : decode cX7_init 69 = .ok (.putfield 32, 3) := by decide +kernel
theorem dX7_init_72 : decode cX7_init 72 = .ok (.aload_n 0, 1) := by decide +kernel
theorem dX7_init_73 : decode cX7_init 73 = .ok (.iconst 3, 1) := by decide +kernel
theorem dX7_init_74 : decode cX7_init 74 = .ok (.newarray .int, 2) := by decide +kernel
theorem dX7_init_76 : decode cX7_init 76 = .ok (.putfield 35, 3) := by decide +kernel
theorem dX7_init_79 : decode cX7_init 79 = .ok (.aload_n 0, 1) := by decide +kernel
theorem dX7_init_80 : decode cX7_init 80 = .ok (.bipush 16, 2) := by decide +kernel
theorem dX7_init_82 : decode cX7_init 82 = .ok (.newarray .int, 2) := by decide +kernel
theorem dX7_init_84 : decode cX7_init 84 = .ok (.putfield 38, 3) := by decide +kernel
theorem dX7_init_87 : decode cX7_init 87 = .ok (.aload_n 0, 1) := by decide +kernel
theorem dX7_init_88 : decode cX7_init 88 = .ok (.bipush 16, 2) := by decide +kernel
theorem dX7_init_90 : decode cX7_init 90 = .ok (.newarray .int, 2) := by decide +kernel
theorem dX7_init_92 : decode cX7_init 92 = .ok (.putfield 41, 3) := by decide +kernel
theorem dX7_init_95 : decode cX7_init 95 = .ok (.aload_n 0, 1) := by decide +kernel
theorem dX7_init_96 : decode cX7_init 96 = .ok (.getfield 7, 3) := by decide +kernel
theorem dX7_init_99 : decode cX7_init 99 = .ok (.iconst 0, 1) := by decide +kernel
theorem dX7_init_100 : decode cX7_init 100 = .ok (.iconst 1, 1) := by decide +kernel
theorem dX7_init_101 : decode cX7_init 101 = .ok (.iastore, 1) := by decide +kernel
theorem dX7_init_102 : decode cX7_init 102 = .ok (.return_, 1) := by decide +kernel
theorem dX7_in_0 : decode cX7_in 0 = .ok (.lload_n 0, 1) := by decide +kernel
theorem dX7_in_1 : decode cX7_in 1 = .ok (.iload_n 2, 1) := by decide +kernel
theorem dX7_in_2 : decode cX7_in 2 = .ok (.i2l, 1) := by decide +kernel
theorem dX7_in_3 : decode cX7_in 3 = .ok (.lcmp, 1) := by decide +kernel
theorem dX7_in_4 : decode cX7_in 4 = .ok (.ifCond .lt 14, 3) := by decide +kernel
theorem dX7_in_7 : decode cX7_in 7 = .ok (.lload_n 0, 1) := by decide +kernel
theorem dX7_in_8 : decode cX7_in 8 = .ok (.iload_n 3, 1) := by decide +kernel
theorem dX7_in_9 : decode cX7_in 9 = .ok (.i2l, 1) := by decide +kernel
theorem dX7_in_10 : decode cX7_in 10 = .ok (.lcmp, 1) := by decide +kernel
theorem dX7_in_11 : decode cX7_in 11 = .ok (.ifCond .gt 7, 3) := by decide +kernel
theorem dX7_in_14 : decode cX7_in 14 = .ok (.iconst 1, 1) := by decide +kernel
theorem dX7_in_15 : decode cX7_in 15 = .ok (.goto 4, 3) := by decide +kernel
theorem dX7_in_18 : decode cX7_in 18 = .ok (.iconst 0, 1) := by decide +kernel
theorem dX7_in_19 : decode cX7_in 19 = .ok (.ireturn, 1) := by decide +kernel
theorem dX7_size_0 : decode cX7_size 0 = .ok (.iconst 0, 1) := by decide +kernel
theorem dX7_size_1 : decode cX7_size 1 = .ok (.istore_n 1, 1) := by decide +kernel
theorem dX7_size_2 : decode cX7_size 2 = .ok (.iconst 0, 1) := by decide +kernel
theorem dX7_size_3 : decode cX7_size 3 = .ok (.istore_n 2, 1) := by decide +kernel
theorem dX7_size_4 : decode cX7_size 4 = .ok (.iload_n 2, 1) := by decide +kernel
theorem dX7_size_5 : decode cX7_size 5 = .ok (.bipush 16, 2) := by decide +kernel
theorem dX7_size_7 : decode cX7_size 7 = .ok (.if_icmp .ge 17, 3) := by decide +kernel
theorem dX7_size_10 : decode cX7_size 10 = .ok (.iload_n 1, 1) := by decide +kernel
theorem dX7_size_11 : decode cX7_size 11 = .ok (.iload_n 0, 1) := by decide +kernel
theorem dX7_size_12 : decode cX7_size 12 = .ok (.iload_n 2, 1) := by decide +kernel
theorem dX7_size_13 : decode cX7_size 13 = .ok (.ishr, 1) := by decide +kernel
theorem dX7_size_14 : decode cX7_size 14 = .ok (.iconst 1, 1) := by decide +kernel
theorem dX7_size_15 : decode cX7_size 15 = .ok (.iand, 1) := by decide +kernel
theorem dX7_size_16 : decode cX7_size 16 = .ok (.iadd, 1) := by decide +kernel
theorem dX7_size_17 : decode cX7_size 17 = .ok (.istore_n 1, 1) := by decide +kernel
theorem dX7_size_18 : decode cX7_size 18 = .ok (.iinc 2 1, 3) := by decide +kernel
theorem dX7_size_21 : decode cX7_size 21 = .ok (.goto (-17), 3) := by decide +kernel
theorem dX7_size_24 : decode cX7_size 24 = .ok (.iload_n 1, 1) := by decide +kernel
theorem dX7_size_25 : decode cX7_size 25 = .ok (.ireturn, 1) := by decide +kernel
theorem dX7_isCup_0 : decode cX7_isCup 0 = .ok (.iload_n 1, 1) := by decide +kernel
theorem dX7_isCup_1 : decode cX7_isCup 1 = .ok (.i2l, 1) := by decide +kernel
theorem dX7_isCup_2 : decode cX7_isCup 2 = .ok (.iconst 0, 1) := by decide +kernel
theorem dX7_isCup_3 : decode cX7_isCup 3 = .ok (.aload_n 0, 1) := by decide +kernel
theorem dX7_isCup_4 : decode cX7_isCup 4 = .ok (.getfield 7, 3) := by decide +kernel
theorem dX7_isCup_7 : decode cX7_isCup 7 = .ok (.iconst 3, 1) := by decide +kernel
theorem dX7_isCup_8 : decode cX7_isCup 8 = .ok (.iaload, 1) := by decide +kernel
theorem dX7_isCup_9 : decode cX7_isCup 9 = .ok (.iconst 1, 1) := by decide +kernel
theorem dX7_isCup_10 : decode cX7_isCup 10 = .ok (.isub, 1) := by decide +kernel
theorem dX7_isCup_11 : decode cX7_isCup 11 = .ok (.invokestatic 44, 3) := by decide +kernel
theorem dX7_isCup_14 : decode cX7_isCup 14 = .ok (.ireturn, 1) := by decide +kernel
theorem dX7_its_0 : decode cX7_its 0 = .ok (.aload_n 0, 1) := by decide +kernel
theorem dX7_its_1 : decode cX7_its 1 = .ok (.getfield 7, 3) := by decide +kernel
theorem dX7_its_4 : decode cX7_its 4 = .ok (.bipush 21, 2) := by decide +kernel
theorem dX7_its_6 : decode cX7_its 6 = .ok (.bipush 69, 2) := by decide +kernel
theorem dX7_its_8 : decode cX7_its 8 = .ok (.iload_n 1, 1) := by decide +kernel
theorem dX7_its_9 : decode cX7_its 9 = .ok (.imul, 1) := by decide +kernel
theorem dX7_its_10 : decode cX7_its 10 = .ok (.iadd, 1) := by decide +kernel
theorem dX7_its_11 : decode cX7_its 11 = .ok (.iload_n 2, 1) := by decide +kernel
theorem dX7_its_12 : decode cX7_its 12 = .ok (.iadd, 1) := by decide +kernel
theorem dX7_its_13 : decode cX7_its 13 = .ok (.iaload, 1) := by decide +kernel
theorem dX7_its_14 : decode cX7_its 14 = .ok (.ireturn, 1) := by decide +kernel
theorem dX7_lay_0 : decode cX7_lay 0 = .ok (.aload_n 0, 1) := by decide +kernel
theorem dX7_lay_1 : decode cX7_lay 1 = .ok (.getfield 7, 3) := by decide +kernel
theorem dX7_lay_4 : decode cX7_lay 4 = .ok (.bipush 21, 2) := by decide +kernel
theorem dX7_lay_6 : decode cX7_lay 6 = .ok (.bipush 69, 2) := by decide +kernel
theorem dX7_lay_8 : decode cX7_lay 8 = .ok (.iload_n 1, 1) := by decide +kernel
theorem dX7_lay_9 : decode cX7_lay 9 = .ok (.imul, 1) := by decide +kernel
theorem dX7_lay_10 : decode cX7_lay 10 = .ok (.iadd, 1) := by decide +kernel
theorem dX7_lay_11 : decode cX7_lay 11 = .ok (.iload_n 2, 1) := by decide +kernel
theorem dX7_lay_12 : decode cX7_lay 12 = .ok (.iadd, 1) := by decide +kernel
theorem dX7_lay_13 : decode cX7_lay 13 = .ok (.iload_n 3, 1) := by decide +kernel
theorem dX7_lay_14 : decode cX7_lay 14 = .ok (.iastore, 1) := by decide +kernel
theorem dX7_lay_15 : decode cX7_lay 15 = .ok (.return_, 1) := by decide +kernel
theorem dX7_whole_0 : decode cX7_whole 0 = .ok (.iconst 1, 1) := by decide +kernel
theorem dX7_whole_1 : decode cX7_whole 1 = .ok (.aload_n 0, 1) := by decide +kernel
theorem dX7_whole_2 : decode cX7_whole 2 = .ok (.getfield 7, 3) := by decide +kernel
theorem dX7_whole_5 : decode cX7_whole 5 = .ok (.iconst 2, 1) := by decide +kernel
theorem dX7_whole_6 : decode cX7_whole 6 = .ok (.iaload, 1) := by decide +kernel
theorem dX7_whole_7 : decode cX7_whole 7 = .ok (.ishl, 1) := by decide +kernel
theorem dX7_whole_8 : decode cX7_whole 8 = .ok (.iconst 1, 1) := by decide +kernel
theorem dX7_whole_9 : decode cX7_whole 9 = .ok (.isub, 1) := by decide +kernel
theorem dX7_whole_10 : decode cX7_whole 10 = .ok (.ireturn, 1) := by decide +kernel
theorem dX7_isFull_0 : decode cX7_isFull 0 = .ok (.aload_n 0, 1) := by decide +kernel
theorem dX7_isFull_1 : decode cX7_isFull 1 = .ok (.iload_n 1, 1) := by decide +kernel
theorem dX7_isFull_2 : decode cX7_isFull 2 = .ok (.iconst 0, 1) := by decide +kernel
theorem dX7_isFull_3 : decode cX7_isFull 3 = .ok (.invokevirtual 48, 3) := by decide +kernel
theorem dX7_isFull_6 : decode cX7_isFull 6 = .ok (.aload_n 0, 1) := by decide +kernel
theorem dX7_isFull_7 : decode cX7_isFull 7 = .ok (.invokevirtual 52, 3) := by decide +kernel
theorem dX7_isFull_10 : decode cX7_isFull 10 = .ok (.if_icmp .ne 7, 3) := by decide +kernel
theorem dX7_isFull_13 : decode cX7_isFull 13 = .ok (.iconst 1, 1) := by decide +kernel
theorem dX7_isFull_14 : decode cX7_isFull 14 = .ok (.goto 4, 3) := by decide +kernel
theorem dX7_isFull_17 : decode cX7_isFull 17 = .ok (.iconst 0, 1) := by decide +kernel
theorem dX7_isFull_18 : decode cX7_isFull 18 = .ok (.ireturn, 1) := by decide +kernel
theorem dX7_remember_0 : decode cX7_remember 0 = .ok (.iconst 0, 1) := by decide +kernel
theorem dX7_remember_1 : decode cX7_remember 1 = .ok (.istore_n 1, 1) := by decide +kernel
theorem dX7_remember_2 : decode cX7_remember 2 = .ok (.iload_n 1, 1) := by decide +kernel
theorem dX7_remember_3 : decode cX7_remember 3 = .ok (.sipush 228, 3) := by decide +kernel
theorem dX7_remember_6 : decode cX7_remember 6 = .ok (.if_icmp .ge 21, 3) := by decide +kernel
theorem dX7_remember_9 : decode cX7_remember 9 = .ok (.aload_n 0, 1) := by decide +kernel
theorem dX7_remember_10 : decode cX7_remember 10 = .ok (.getfield 16, 3) := by decide +kernel
theorem dX7_remember_13 : decode cX7_remember 13 = .ok (.iload_n 1, 1) := by decide +kernel
theorem dX7_remember_14 : decode cX7_remember 14 = .ok (.aload_n 0, 1) := by decide +kernel
theorem dX7_remember_15 : decode cX7_remember 15 = .ok (.getfield 7, 3) := by decide +kernel
theorem dX7_remember_18 : decode cX7_remember 18 = .ok (.iload_n 1, 1) := by decide +kernel
theorem dX7_remember_19 : decode cX7_remember 19 = .ok (.iaload, 1) := by decide +kernel
theorem dX7_remember_20 : decode cX7_remember 20 = .ok (.iastore, 1) := by decide +kernel
theorem dX7_remember_21 : decode cX7_remember 21 = .ok (.iinc 1 1, 3) := by decide +kernel
theorem dX7_remember_24 : decode cX7_remember 24 = .ok (.goto (-22), 3) := by decide +kernel
theorem dX7_remember_27 : decode cX7_remember 27 = .ok (.return_, 1) := by decide +kernel
theorem dX7_record_0 : decode cX7_record 0 = .ok (.iload_n 1, 1) := by decide +kernel
theorem dX7_record_1 : decode cX7_record 1 = .ok (.ifCond .ge 5, 3) := by decide +kernel
theorem dX7_record_4 : decode cX7_record 4 = .ok (.iload_n 1, 1) := by decide +kernel
theorem dX7_record_5 : decode cX7_record 5 = .ok (.ireturn, 1) := by decide +kernel
theorem dX7_record_6 : decode cX7_record 6 = .ok (.aload_n 0, 1) := by decide +kernel
theorem dX7_record_7 : decode cX7_record 7 = .ok (.getfield 56, 3) := by decide +kernel
theorem dX7_record_10 : decode cX7_record 10 = .ok (.bipush 6, 2) := by decide +kernel
theorem dX7_record_12 : decode cX7_record 12 = .ok (.if_icmp .ne 44, 3) := by decide +kernel
theorem dX7_record_15 : decode cX7_record 15 = .ok (.iconst 0, 1) := by decide +kernel
theorem dX7_record_16 : decode cX7_record 16 = .ok (.istore_n 2, 1) := by decide +kernel
theorem dX7_record_17 : decode cX7_record 17 = .ok (.iload_n 2, 1) := by decide +kernel
theorem dX7_record_18 : decode cX7_record 18 = .ok (.sipush 1140, 3) := by decide +kernel
theorem dX7_record_21 : decode cX7_record 21 = .ok (.if_icmp .ge 25, 3) := by decide +kernel
theorem dX7_record_24 : decode cX7_record 24 = .ok (.aload_n 0, 1) := by decide +kernel
theorem dX7_record_25 : decode cX7_record 25 = .ok (.getfield 13, 3) := by decide +kernel
theorem dX7_record_28 : decode cX7_record 28 = .ok (.iload_n 2, 1) := by decide +kernel
theorem dX7_record_29 : decode cX7_record 29 = .ok (.aload_n 0, 1) := by decide +kernel
theorem dX7_record_30 : decode cX7_record 30 = .ok (.getfield 13, 3) := by decide +kernel
theorem dX7_record_33 : decode cX7_record 33 = .ok (.sipush 228, 3) := by decide +kernel
theorem dX7_record_36 : decode cX7_record 36 = .ok (.iload_n 2, 1) := by decide +kernel
theorem dX7_record_37 : decode cX7_record 37 = .ok (.iadd, 1) := by decide +kernel
theorem dX7_record_38 : decode cX7_record 38 = .ok (.iaload, 1) := by decide +kernel
theorem dX7_record_39 : decode cX7_record 39 = .ok (.iastore, 1) := by decide +kernel
theorem dX7_record_40 : decode cX7_record 40 = .ok (.iinc 2 1, 3) := by decide +kernel
theorem dX7_record_43 : decode cX7_record 43 = .ok (.goto (-26), 3) := by decide +kernel
theorem dX7_record_46 : decode cX7_record 46 = .ok (.aload_n 0, 1) := by decide +kernel
theorem dX7_record_47 : decode cX7_record 47 = .ok (.dup, 1) := by decide +kernel
theorem dX7_record_48 : decode cX7_record 48 = .ok (.getfield 56, 3) := by decide +kernel
theorem dX7_record_51 : decode cX7_record 51 = .ok (.iconst 1, 1) := by decide +kernel
theorem dX7_record_52 : decode cX7_record 52 = .ok (.isub, 1) := by decide +kernel
theorem dX7_record_53 : decode cX7_record 53 = .ok (.putfield 56, 3) := by decide +kernel
theorem dX7_record_56 : decode cX7_record 56 = .ok (.iconst 0, 1) := by decide +kernel
theorem dX7_record_57 : decode cX7_record 57 = .ok (.istore_n 2, 1) := by decide +kernel
theorem dX7_record_58 : decode cX7_record 58 = .ok (.iload_n 2, 1) := by decide +kernel
theorem dX7_record_59 : decode cX7_record 59 = .ok (.sipush 228, 3) := by decide +kernel
theorem dX7_record_62 : decode cX7_record 62 = .ok (.if_icmp .ge 30, 3) := by decide +kernel
theorem dX7_record_65 : decode cX7_record 65 = .ok (.aload_n 0, 1) := by decide +kernel
theorem dX7_record_66 : decode cX7_record 66 = .ok (.getfield 13, 3) := by decide +kernel
theorem dX7_record_69 : decode cX7_record 69 = .ok (.sipush 228, 3) := by decide +kernel
theorem dX7_record_72 : decode cX7_record 72 = .ok (.aload_n 0, 1) := by decide +kernel
theorem dX7_record_73 : decode cX7_record 73 = .ok (.getfield 56, 3) := by decide +kernel
theorem dX7_record_76 : decode cX7_record 76 = .ok (.imul, 1) := by decide +kernel
theorem dX7_record_77 : decode cX7_record 77 = .ok (.iload_n 2, 1) := by decide +kernel
theorem dX7_record_78 : decode cX7_record 78 = .ok (.iadd, 1) := by decide +kernel
theorem dX7_record_79 : decode cX7_record 79 = .ok (.aload_n 0, 1) := by decide +kernel
theorem dX7_record_80 : decode cX7_record 80 = .ok (.getfield 16, 3) := by decide +kernel
theorem dX7_record_83 : decode cX7_record 83 = .ok (.iload_n 2, 1) := by decide +kernel
theorem dX7_record_84 : decode cX7_record 84 = .ok (.iaload, 1) := by decide +kernel
theorem dX7_record_85 : decode cX7_record 85 = .ok (.iastore, 1) := by decide +kernel
theorem dX7_record_86 : decode cX7_record 86 = .ok (.iinc 2 1, 3) := by decide +kernel
theorem dX7_record_89 : decode cX7_record 89 = .ok (.goto (-31), 3) := by decide +kernel
theorem dX7_record_92 : decode cX7_record 92 = .ok (.aload_n 0, 1) := by decide +kernel
theorem dX7_record_93 : decode cX7_record 93 = .ok (.dup, 1) := by decide +kernel
theorem dX7_record_94 : decode cX7_record 94 = .ok (.getfield 56, 3) := by decide +kernel
theorem dX7_record_97 : decode cX7_record 97 = .ok (.iconst 1, 1) := by decide +kernel
theorem dX7_record_98 : decode cX7_record 98 = .ok (.iadd, 1) := by decide +kernel
theorem dX7_record_99 : decode cX7_record 99 = .ok (.putfield 56, 3) := by decide +kernel
theorem dX7_record_102 : decode cX7_record 102 = .ok (.iload_n 1, 1) := by decide +kernel
theorem dX7_record_103 : decode cX7_record 103 = .ok (.ireturn, 1) := by decide +kernel
theorem dX7_undo_0 : decode cX7_undo 0 = .ok (.aload_n 0, 1) := by decide +kernel
theorem dX7_undo_1 : decode cX7_undo 1 = .ok (.getfield 56, 3) := by decide +kernel
theorem dX7_undo_4 : decode cX7_undo 4 = .ok (.ifCond .ne 6, 3) := by decide +kernel
theorem dX7_undo_7 : decode cX7_undo 7 = .ok (.bipush (-5), 2) := by decide +kernel
theorem dX7_undo_9 : decode cX7_undo 9 = .ok (.ireturn, 1) := by decide +kernel
theorem dX7_undo_10 : decode cX7_undo 10 = .ok (.aload_n 0, 1) := by decide +kernel
theorem dX7_undo_11 : decode cX7_undo 11 = .ok (.dup, 1) := by decide +kernel
theorem dX7_undo_12 : decode cX7_undo 12 = .ok (.getfield 56, 3) := by decide +kernel
theorem dX7_undo_15 : decode cX7_undo 15 = .ok (.iconst 1, 1) := by decide +kernel
theorem dX7_undo_16 : decode cX7_undo 16 = .ok (.isub, 1) := by decide +kernel
theorem dX7_undo_17 : decode cX7_undo 17 = .ok (.putfield 56, 3) := by decide +kernel
theorem dX7_undo_20 : decode cX7_undo 20 = .ok (.iconst 0, 1) := by decide +kernel
theorem dX7_undo_21 : decode cX7_undo 21 = .ok (.istore_n 1, 1) := by decide +kernel
theorem dX7_undo_22 : decode cX7_undo 22 = .ok (.iload_n 1, 1) := by decide +kernel
theorem dX7_undo_23 : decode cX7_undo 23 = .ok (.sipush 228, 3) := by decide +kernel
theorem dX7_undo_26 : decode cX7_undo 26 = .ok (.if_icmp .ge 30, 3) := by decide +kernel
theorem dX7_undo_29 : decode cX7_undo 29 = .ok (.aload_n 0, 1) := by decide +kernel
theorem dX7_undo_30 : decode cX7_undo 30 = .ok (.getfield 7, 3) := by decide +kernel
theorem dX7_undo_33 : decode cX7_undo 33 = .ok (.iload_n 1, 1) := by decide +kernel
theorem dX7_undo_34 : decode cX7_undo 34 = .ok (.aload_n 0, 1) := by decide +kernel
theorem dX7_undo_35 : decode cX7_undo 35 = .ok (.getfield 13, 3) := by decide +kernel
theorem dX7_undo_38 : decode cX7_undo 38 = .ok (.sipush 228, 3) := by decide +kernel
theorem dX7_undo_41 : decode cX7_undo 41 = .ok (.aload_n 0, 1) := by decide +kernel
theorem dX7_undo_42 : decode cX7_undo 42 = .ok (.getfield 56, 3) := by decide +kernel
theorem dX7_undo_45 : decode cX7_undo 45 = .ok (.imul, 1) := by decide +kernel
theorem dX7_undo_46 : decode cX7_undo 46 = .ok (.iload_n 1, 1) := by decide +kernel
theorem dX7_undo_47 : decode cX7_undo 47 = .ok (.iadd, 1) := by decide +kernel
theorem dX7_undo_48 : decode cX7_undo 48 = .ok (.iaload, 1) := by decide +kernel
theorem dX7_undo_49 : decode cX7_undo 49 = .ok (.iastore, 1) := by decide +kernel
theorem dX7_undo_50 : decode cX7_undo 50 = .ok (.iinc 1 1, 3) := by decide +kernel
theorem dX7_undo_53 : decode cX7_undo 53 = .ok (.goto (-31), 3) := by decide +kernel
theorem dX7_undo_56 : decode cX7_undo 56 = .ok (.aload_n 0, 1) := by decide +kernel
theorem dX7_undo_57 : decode cX7_undo 57 = .ok (.getfield 56, 3) := by decide +kernel
theorem dX7_undo_60 : decode cX7_undo 60 = .ok (.ireturn, 1) := by decide +kernel
theorem dX7_save_0 : decode cX7_save 0 = .ok (.iload_n 1, 1) := by decide +kernel
theorem dX7_save_1 : decode cX7_save 1 = .ok (.i2l, 1) := by decide +kernel
theorem dX7_save_2 : decode cX7_save 2 = .ok (.iconst 0, 1) := by decide +kernel
theorem dX7_save_3 : decode cX7_save 3 = .ok (.iconst 1, 1) := by decide +kernel
theorem dX7_save_4 : decode cX7_save 4 = .ok (.invokestatic 44, 3) := by decide +kernel
theorem dX7_save_7 : decode cX7_save 7 = .ok (.ifCond .ne 6, 3) := by decide +kernel
theorem dX7_save_10 : decode cX7_save 10 = .ok (.bipush (-2), 2) := by decide +kernel
theorem dX7_save_12 : decode cX7_save 12 = .ok (.ireturn, 1) := by decide +kernel
theorem dX7_save_13 : decode cX7_save 13 = .ok (.iconst 0, 1) := by decide +kernel
theorem dX7_save_14 : decode cX7_save 14 = .ok (.istore_n 2, 1) := by decide +kernel
theorem dX7_save_15 : decode cX7_save 15 = .ok (.iload_n 2, 1) := by decide +kernel
theorem dX7_save_16 : decode cX7_save 16 = .ok (.sipush 228, 3) := by decide +kernel
theorem dX7_save_19 : decode cX7_save 19 = .ok (.if_icmp .ge 27, 3) := by decide +kernel
theorem dX7_save_22 : decode cX7_save 22 = .ok (.aload_n 0, 1) := by decide +kernel
theorem dX7_save_23 : decode cX7_save 23 = .ok (.getfield 22, 3) := by decide +kernel
theorem dX7_save_26 : decode cX7_save 26 = .ok (.sipush 228, 3) := by decide +kernel
theorem dX7_save_29 : decode cX7_save 29 = .ok (.iload_n 1, 1) := by decide +kernel
theorem dX7_save_30 : decode cX7_save 30 = .ok (.imul, 1) := by decide +kernel
theorem dX7_save_31 : decode cX7_save 31 = .ok (.iload_n 2, 1) := by decide +kernel
theorem dX7_save_32 : decode cX7_save 32 = .ok (.iadd, 1) := by decide +kernel
theorem dX7_save_33 : decode cX7_save 33 = .ok (.aload_n 0, 1) := by decide +kernel
theorem dX7_save_34 : decode cX7_save 34 = .ok (.getfield 7, 3) := by decide +kernel
theorem dX7_save_37 : decode cX7_save 37 = .ok (.iload_n 2, 1) := by decide +kernel
theorem dX7_save_38 : decode cX7_save 38 = .ok (.iaload, 1) := by decide +kernel
theorem dX7_save_39 : decode cX7_save 39 = .ok (.iastore, 1) := by decide +kernel
theorem dX7_save_40 : decode cX7_save 40 = .ok (.iinc 2 1, 3) := by decide +kernel
theorem dX7_save_43 : decode cX7_save 43 = .ok (.goto (-28), 3) := by decide +kernel
theorem dX7_save_46 : decode cX7_save 46 = .ok (.aload_n 0, 1) := by decide +kernel
theorem dX7_save_47 : decode cX7_save 47 = .ok (.getfield 25, 3) := by decide +kernel
theorem dX7_save_50 : decode cX7_save 50 = .ok (.iload_n 1, 1) := by decide +kernel
theorem dX7_save_51 : decode cX7_save 51 = .ok (.iconst 1, 1) := by decide +kernel
theorem dX7_save_52 : decode cX7_save 52 = .ok (.bastore, 1) := by decide +kernel
theorem dX7_save_53 : decode cX7_save 53 = .ok (.aload_n 0, 1) := by decide +kernel
theorem dX7_save_54 : decode cX7_save 54 = .ok (.getfield 7, 3) := by decide +kernel
theorem dX7_save_57 : decode cX7_save 57 = .ok (.iconst 3, 1) := by decide +kernel
theorem dX7_save_58 : decode cX7_save 58 = .ok (.iaload, 1) := by decide +kernel
theorem dX7_save_59 : decode cX7_save 59 = .ok (.ireturn, 1) := by decide +kernel
theorem dX7_restore_0 : decode cX7_restore 0 = .ok (.iload_n 1, 1) := by decide +kernel
theorem dX7_restore_1 : decode cX7_restore 1 = .ok (.i2l, 1) := by decide +kernel
theorem dX7_restore_2 : decode cX7_restore 2 = .ok (.iconst 0, 1) := by decide +kernel
theorem dX7_restore_3 : decode cX7_restore 3 = .ok (.iconst 1, 1) := by decide +kernel
theorem dX7_restore_4 : decode cX7_restore 4 = .ok (.invokestatic 44, 3) := by decide +kernel
theorem dX7_restore_7 : decode cX7_restore 7 = .ok (.ifCond .ne 6, 3) := by decide +kernel
theorem dX7_restore_10 : decode cX7_restore 10 = .ok (.bipush (-2), 2) := by decide +kernel
theorem dX7_restore_12 : decode cX7_restore 12 = .ok (.ireturn, 1) := by decide +kernel
