theorem dX7_cupComes_12 : decode cX7_cupComes 12 = .ok (.bipush (-4), 2) := by decide +kernel
theorem dX7_cupComes_14 : decode cX7_cupComes 14 = .ok (.ireturn, 1) := by decide +kernel
theorem dX7_cupComes_15 : decode cX7_cupComes 15 = .ok (.aload_n 0, 1) := by decide +kernel
theorem dX7_cupComes_16 : decode cX7_cupComes 16 = .ok (.getfield 7, 3) := by decide +kernel
theorem dX7_cupComes_19 : decode cX7_cupComes 19 = .ok (.iconst 3, 1) := by decide +kernel
theorem dX7_cupComes_20 : decode cX7_cupComes 20 = .ok (.dup2, 1) := by decide +kernel
theorem dX7_cupComes_21 : decode cX7_cupComes 21 = .ok (.iaload, 1) := by decide +kernel
theorem dX7_cupComes_22 : decode cX7_cupComes 22 = .ok (.iconst 1, 1) := by decide +kernel
theorem dX7_cupComes_23 : decode cX7_cupComes 23 = .ok (.iadd, 1) := by decide +kernel
theorem dX7_cupComes_24 : decode cX7_cupComes 24 = .ok (.iastore, 1) := by decide +kernel
theorem dX7_cupComes_25 : decode cX7_cupComes 25 = .ok (.iload_n 1, 1) := by decide +kernel
theorem dX7_cupComes_26 : decode cX7_cupComes 26 = .ok (.ireturn, 1) := by decide +kernel
theorem dX7_pours_0 : decode cX7_pours 0 = .ok (.aload_n 0, 1) := by decide +kernel
theorem dX7_pours_1 : decode cX7_pours 1 = .ok (.iload_n 1, 1) := by decide +kernel
theorem dX7_pours_2 : decode cX7_pours 2 = .ok (.invokevirtual 118, 3) := by decide +kernel
theorem dX7_pours_5 : decode cX7_pours 5 = .ok (.ifCond .ne 5, 3) := by decide +kernel
theorem dX7_pours_8 : decode cX7_pours 8 = .ok (.iconst (-1), 1) := by decide +kernel
theorem dX7_pours_9 : decode cX7_pours 9 = .ok (.ireturn, 1) := by decide +kernel
theorem dX7_pours_10 : decode cX7_pours 10 = .ok (.iload_n 2, 1) := by decide +kernel
theorem dX7_pours_11 : decode cX7_pours 11 = .ok (.i2l, 1) := by decide +kernel
theorem dX7_pours_12 : decode cX7_pours 12 = .ok (.iconst 0, 1) := by decide +kernel
theorem dX7_pours_13 : decode cX7_pours 13 = .ok (.ldc 117, 2) := by decide +kernel
theorem dX7_pours_15 : decode cX7_pours 15 = .ok (.invokestatic 44, 3) := by decide +kernel
theorem dX7_pours_18 : decode cX7_pours 18 = .ok (.ifCond .eq 14, 3) := by decide +kernel
theorem dX7_pours_21 : decode cX7_pours 21 = .ok (.iload_n 3, 1) := by decide +kernel
theorem dX7_pours_22 : decode cX7_pours 22 = .ok (.i2l, 1) := by decide +kernel
theorem dX7_pours_23 : decode cX7_pours 23 = .ok (.iconst 1, 1) := by decide +kernel
theorem dX7_pours_24 : decode cX7_pours 24 = .ok (.bipush 99, 2) := by decide +kernel
theorem dX7_pours_26 : decode cX7_pours 26 = .ok (.invokestatic 44, 3) := by decide +kernel
theorem dX7_pours_29 : decode cX7_pours 29 = .ok (.ifCond .ne 6, 3) := by decide +kernel
theorem dX7_pours_32 : decode cX7_pours 32 = .ok (.bipush (-2), 2) := by decide +kernel
theorem dX7_pours_34 : decode cX7_pours 34 = .ok (.ireturn, 1) := by decide +kernel
theorem dX7_pours_35 : decode cX7_pours 35 = .ok (.aload_n 0, 1) := by decide +kernel
theorem dX7_pours_36 : decode cX7_pours 36 = .ok (.getfield 7, 3) := by decide +kernel
theorem dX7_pours_39 : decode cX7_pours 39 = .ok (.iconst 2, 1) := by decide +kernel
theorem dX7_pours_40 : decode cX7_pours 40 = .ok (.iaload, 1) := by decide +kernel
theorem dX7_pours_41 : decode cX7_pours 41 = .ok (.ifCond .ne 6, 3) := by decide +kernel
theorem dX7_pours_44 : decode cX7_pours 44 = .ok (.bipush (-5), 2) := by decide +kernel
theorem dX7_pours_46 : decode cX7_pours 46 = .ok (.ireturn, 1) := by decide +kernel
theorem dX7_pours_47 : decode cX7_pours 47 = .ok (.iconst 0, 1) := by decide +kernel
theorem dX7_pours_48 : decode cX7_pours 48 = .ok (.istore 4, 2) := by decide +kernel
theorem dX7_pours_50 : decode cX7_pours 50 = .ok (.iconst 0, 1) := by decide +kernel
theorem dX7_pours_51 : decode cX7_pours 51 = .ok (.istore 5, 2) := by decide +kernel
theorem dX7_pours_53 : decode cX7_pours 53 = .ok (.iload 5, 2) := by decide +kernel
theorem dX7_pours_55 : decode cX7_pours 55 = .ok (.iload_n 3, 1) := by decide +kernel
theorem dX7_pours_56 : decode cX7_pours 56 = .ok (.if_icmp .ge 26, 3) := by decide +kernel
theorem dX7_pours_59 : decode cX7_pours 59 = .ok (.iload 4, 2) := by decide +kernel
theorem dX7_pours_61 : decode cX7_pours 61 = .ok (.aload_n 0, 1) := by decide +kernel
theorem dX7_pours_62 : decode cX7_pours 62 = .ok (.iload_n 1, 1) := by decide +kernel
theorem dX7_pours_63 : decode cX7_pours 63 = .ok (.iload_n 2, 1) := by decide +kernel
theorem dX7_pours_64 : decode cX7_pours 64 = .ok (.iload 5, 2) := by decide +kernel
theorem dX7_pours_66 : decode cX7_pours 66 = .ok (.iadd, 1) := by decide +kernel
theorem dX7_pours_67 : decode cX7_pours 67 = .ok (.ldc 122, 2) := by decide +kernel
theorem dX7_pours_69 : decode cX7_pours 69 = .ok (.irem, 1) := by decide +kernel
theorem dX7_pours_70 : decode cX7_pours 70 = .ok (.invokevirtual 123, 3) := by decide +kernel
theorem dX7_pours_73 : decode cX7_pours 73 = .ok (.iadd, 1) := by decide +kernel
theorem dX7_pours_74 : decode cX7_pours 74 = .ok (.istore 4, 2) := by decide +kernel
theorem dX7_pours_76 : decode cX7_pours 76 = .ok (.iinc 5 1, 3) := by decide +kernel
theorem dX7_pours_79 : decode cX7_pours 79 = .ok (.goto (-26), 3) := by decide +kernel
theorem dX7_pours_82 : decode cX7_pours 82 = .ok (.iload 4, 2) := by decide +kernel
theorem dX7_pours_84 : decode cX7_pours 84 = .ok (.ireturn, 1) := by decide +kernel
theorem dX7_solves_0 : decode cX7_solves 0 = .ok (.aload_n 0, 1) := by decide +kernel
theorem dX7_solves_1 : decode cX7_solves 1 = .ok (.iload_n 1, 1) := by decide +kernel
theorem dX7_solves_2 : decode cX7_solves 2 = .ok (.invokevirtual 118, 3) := by decide +kernel
theorem dX7_solves_5 : decode cX7_solves 5 = .ok (.ifCond .ne 5, 3) := by decide +kernel
theorem dX7_solves_8 : decode cX7_solves 8 = .ok (.iconst (-1), 1) := by decide +kernel
theorem dX7_solves_9 : decode cX7_solves 9 = .ok (.ireturn, 1) := by decide +kernel
theorem dX7_solves_10 : decode cX7_solves 10 = .ok (.aload_n 0, 1) := by decide +kernel
theorem dX7_solves_11 : decode cX7_solves 11 = .ok (.iload_n 1, 1) := by decide +kernel
theorem dX7_solves_12 : decode cX7_solves 12 = .ok (.invokevirtual 126, 3) := by decide +kernel
theorem dX7_solves_15 : decode cX7_solves 15 = .ok (.istore_n 2, 1) := by decide +kernel
theorem dX7_solves_16 : decode cX7_solves 16 = .ok (.iconst 0, 1) := by decide +kernel
theorem dX7_solves_17 : decode cX7_solves 17 = .ok (.istore_n 3, 1) := by decide +kernel
theorem dX7_solves_18 : decode cX7_solves 18 = .ok (.iload_n 3, 1) := by decide +kernel
theorem dX7_solves_19 : decode cX7_solves 19 = .ok (.bipush 16, 2) := by decide +kernel
theorem dX7_solves_21 : decode cX7_solves 21 = .ok (.if_icmp .ge 30, 3) := by decide +kernel
theorem dX7_solves_24 : decode cX7_solves 24 = .ok (.iload_n 2, 1) := by decide +kernel
theorem dX7_solves_25 : decode cX7_solves 25 = .ok (.iload_n 3, 1) := by decide +kernel
theorem dX7_solves_26 : decode cX7_solves 26 = .ok (.ishr, 1) := by decide +kernel
theorem dX7_solves_27 : decode cX7_solves 27 = .ok (.iconst 1, 1) := by decide +kernel
theorem dX7_solves_28 : decode cX7_solves 28 = .ok (.iand, 1) := by decide +kernel
theorem dX7_solves_29 : decode cX7_solves 29 = .ok (.iconst 1, 1) := by decide +kernel
theorem dX7_solves_30 : decode cX7_solves 30 = .ok (.if_icmp .ne 15, 3) := by decide +kernel
theorem dX7_solves_33 : decode cX7_solves 33 = .ok (.aload_n 0, 1) := by decide +kernel
theorem dX7_solves_34 : decode cX7_solves 34 = .ok (.iload_n 1, 1) := by decide +kernel
theorem dX7_solves_35 : decode cX7_solves 35 = .ok (.iload_n 3, 1) := by decide +kernel
theorem dX7_solves_36 : decode cX7_solves 36 = .ok (.aload_n 0, 1) := by decide +kernel
theorem dX7_solves_37 : decode cX7_solves 37 = .ok (.getfield 41, 3) := by decide +kernel
theorem dX7_solves_40 : decode cX7_solves 40 = .ok (.iload_n 3, 1) := by decide +kernel
theorem dX7_solves_41 : decode cX7_solves 41 = .ok (.iaload, 1) := by decide +kernel
theorem dX7_solves_42 : decode cX7_solves 42 = .ok (.invokevirtual 104, 3) := by decide +kernel
theorem dX7_solves_45 : decode cX7_solves 45 = .ok (.iinc 3 1, 3) := by decide +kernel
theorem dX7_solves_48 : decode cX7_solves 48 = .ok (.goto (-30), 3) := by decide +kernel
theorem dX7_solves_51 : decode cX7_solves 51 = .ok (.iload_n 2, 1) := by decide +kernel
theorem dX7_solves_52 : decode cX7_solves 52 = .ok (.invokestatic 91, 3) := by decide +kernel
theorem dX7_solves_55 : decode cX7_solves 55 = .ok (.aload_n 0, 1) := by decide +kernel
theorem dX7_solves_56 : decode cX7_solves 56 = .ok (.iload_n 1, 1) := by decide +kernel
theorem dX7_solves_57 : decode cX7_solves 57 = .ok (.invokevirtual 107, 3) := by decide +kernel
theorem dX7_solves_60 : decode cX7_solves 60 = .ok (.iadd, 1) := by decide +kernel
theorem dX7_solves_61 : decode cX7_solves 61 = .ok (.ireturn, 1) := by decide +kernel
theorem dX7_set_0 : decode cX7_set 0 = .ok (.iload_n 1, 1) := by decide +kernel
theorem dX7_set_1 : decode cX7_set 1 = .ok (.ifCond .ne 16, 3) := by decide +kernel
theorem dX7_set_4 : decode cX7_set 4 = .ok (.iload_n 2, 1) := by decide +kernel
theorem dX7_set_5 : decode cX7_set 5 = .ok (.i2l, 1) := by decide +kernel
theorem dX7_set_6 : decode cX7_set 6 = .ok (.iconst 0, 1) := by decide +kernel
theorem dX7_set_7 : decode cX7_set 7 = .ok (.iconst 2, 1) := by decide +kernel
theorem dX7_set_8 : decode cX7_set 8 = .ok (.invokestatic 44, 3) := by decide +kernel
theorem dX7_set_11 : decode cX7_set 11 = .ok (.ifCond .ne 25, 3) := by decide +kernel
theorem dX7_set_14 : decode cX7_set 14 = .ok (.goto 19, 3) := by decide +kernel
theorem dX7_set_17 : decode cX7_set 17 = .ok (.iload_n 1, 1) := by decide +kernel
theorem dX7_set_18 : decode cX7_set 18 = .ok (.iconst 1, 1) := by decide +kernel
theorem dX7_set_19 : decode cX7_set 19 = .ok (.if_icmp .ne 14, 3) := by decide +kernel
theorem dX7_set_22 : decode cX7_set 22 = .ok (.iload_n 2, 1) := by decide +kernel
theorem dX7_set_23 : decode cX7_set 23 = .ok (.i2l, 1) := by decide +kernel
theorem dX7_set_24 : decode cX7_set 24 = .ok (.iconst 0, 1) := by decide +kernel
theorem dX7_set_25 : decode cX7_set 25 = .ok (.bipush 99, 2) := by decide +kernel
theorem dX7_set_27 : decode cX7_set 27 = .ok (.invokestatic 44, 3) := by decide +kernel
theorem dX7_set_30 : decode cX7_set 30 = .ok (.ifCond .ne 6, 3) := by decide +kernel
theorem dX7_set_33 : decode cX7_set 33 = .ok (.bipush (-2), 2) := by decide +kernel
theorem dX7_set_35 : decode cX7_set 35 = .ok (.ireturn, 1) := by decide +kernel
theorem dX7_set_36 : decode cX7_set 36 = .ok (.aload_n 0, 1) := by decide +kernel
theorem dX7_set_37 : decode cX7_set 37 = .ok (.invokevirtual 60, 3) := by decide +kernel
theorem dX7_set_40 : decode cX7_set 40 = .ok (.aload_n 0, 1) := by decide +kernel
theorem dX7_set_41 : decode cX7_set 41 = .ok (.getfield 7, 3) := by decide +kernel
theorem dX7_set_44 : decode cX7_set 44 = .ok (.iload_n 1, 1) := by decide +kernel
theorem dX7_set_45 : decode cX7_set 45 = .ok (.iaload, 1) := by decide +kernel
theorem dX7_set_46 : decode cX7_set 46 = .ok (.istore_n 3, 1) := by decide +kernel
theorem dX7_set_47 : decode cX7_set 47 = .ok (.aload_n 0, 1) := by decide +kernel
theorem dX7_set_48 : decode cX7_set 48 = .ok (.getfield 7, 3) := by decide +kernel
theorem dX7_set_51 : decode cX7_set 51 = .ok (.iload_n 1, 1) := by decide +kernel
theorem dX7_set_52 : decode cX7_set 52 = .ok (.iload_n 2, 1) := by decide +kernel
theorem dX7_set_53 : decode cX7_set 53 = .ok (.iastore, 1) := by decide +kernel
theorem dX7_set_54 : decode cX7_set 54 = .ok (.aload_n 0, 1) := by decide +kernel
theorem dX7_set_55 : decode cX7_set 55 = .ok (.iload_n 3, 1) := by decide +kernel
theorem dX7_set_56 : decode cX7_set 56 = .ok (.invokevirtual 63, 3) := by decide +kernel
theorem dX7_set_59 : decode cX7_set 59 = .ok (.ireturn, 1) := by decide +kernel
theorem dX7_chapter_0 : decode cX7_chapter 0 = .ok (.aload_n 0, 1) := by decide +kernel
theorem dX7_chapter_1 : decode cX7_chapter 1 = .ok (.invokevirtual 60, 3) := by decide +kernel
theorem dX7_chapter_4 : decode cX7_chapter 4 = .ok (.aload_n 0, 1) := by decide +kernel
theorem dX7_chapter_5 : decode cX7_chapter 5 = .ok (.aload_n 0, 1) := by decide +kernel
theorem dX7_chapter_6 : decode cX7_chapter 6 = .ok (.iload_n 1, 1) := by decide +kernel
theorem dX7_chapter_7 : decode cX7_chapter 7 = .ok (.invokevirtual 129, 3) := by decide +kernel
theorem dX7_chapter_10 : decode cX7_chapter 10 = .ok (.invokevirtual 63, 3) := by decide +kernel
theorem dX7_chapter_13 : decode cX7_chapter 13 = .ok (.ireturn, 1) := by decide +kernel
theorem dX7_cup_0 : decode cX7_cup 0 = .ok (.aload_n 0, 1) := by decide +kernel
theorem dX7_cup_1 : decode cX7_cup 1 = .ok (.invokevirtual 60, 3) := by decide +kernel
theorem dX7_cup_4 : decode cX7_cup 4 = .ok (.aload_n 0, 1) := by decide +kernel
theorem dX7_cup_5 : decode cX7_cup 5 = .ok (.aload_n 0, 1) := by decide +kernel
theorem dX7_cup_6 : decode cX7_cup 6 = .ok (.invokevirtual 132, 3) := by decide +kernel
theorem dX7_cup_9 : decode cX7_cup 9 = .ok (.invokevirtual 63, 3) := by decide +kernel
theorem dX7_cup_12 : decode cX7_cup 12 = .ok (.ireturn, 1) := by decide +kernel
theorem dX7_empty_0 : decode cX7_empty 0 = .ok (.aload_n 0, 1) := by decide +kernel
theorem dX7_empty_1 : decode cX7_empty 1 = .ok (.iload_n 1, 1) := by decide +kernel
theorem dX7_empty_2 : decode cX7_empty 2 = .ok (.invokevirtual 118, 3) := by decide +kernel
theorem dX7_empty_5 : decode cX7_empty 5 = .ok (.ifCond .ne 5, 3) := by decide +kernel
theorem dX7_empty_8 : decode cX7_empty 8 = .ok (.iconst (-1), 1) := by decide +kernel
theorem dX7_empty_9 : decode cX7_empty 9 = .ok (.ireturn, 1) := by decide +kernel
theorem dX7_empty_10 : decode cX7_empty 10 = .ok (.aload_n 0, 1) := by decide +kernel
theorem dX7_empty_11 : decode cX7_empty 11 = .ok (.invokevirtual 60, 3) := by decide +kernel
theorem dX7_empty_14 : decode cX7_empty 14 = .ok (.aload_n 0, 1) := by decide +kernel
theorem dX7_empty_15 : decode cX7_empty 15 = .ok (.iload_n 1, 1) := by decide +kernel
theorem dX7_empty_16 : decode cX7_empty 16 = .ok (.iconst 0, 1) := by decide +kernel
theorem dX7_empty_17 : decode cX7_empty 17 = .ok (.invokevirtual 48, 3) := by decide +kernel
theorem dX7_empty_20 : decode cX7_empty 20 = .ok (.invokestatic 91, 3) := by decide +kernel
theorem dX7_empty_23 : decode cX7_empty 23 = .ok (.istore_n 2, 1) := by decide +kernel
theorem dX7_empty_24 : decode cX7_empty 24 = .ok (.iconst 0, 1) := by decide +kernel
theorem dX7_empty_25 : decode cX7_empty 25 = .ok (.istore_n 3, 1) := by decide +kernel
theorem dX7_empty_26 : decode cX7_empty 26 = .ok (.iload_n 3, 1) := by decide +kernel
theorem dX7_empty_27 : decode cX7_empty 27 = .ok (.bipush 69, 2) := by decide +kernel
theorem dX7_empty_29 : decode cX7_empty 29 = .ok (.if_icmp .ge 16, 3) := by decide +kernel
theorem dX7_empty_32 : decode cX7_empty 32 = .ok (.aload_n 0, 1) := by decide +kernel
theorem dX7_empty_33 : decode cX7_empty 33 = .ok (.iload_n 1, 1) := by decide +kernel
theorem dX7_empty_34 : decode cX7_empty 34 = .ok (.iload_n 3, 1) := by decide +kernel
theorem dX7_empty_35 : decode cX7_empty 35 = .ok (.iconst 0, 1) := by decide +kernel
theorem dX7_empty_36 : decode cX7_empty 36 = .ok (.invokevirtual 87, 3) := by decide +kernel
theorem dX7_empty_39 : decode cX7_empty 39 = .ok (.iinc 3 1, 3) := by decide +kernel
theorem dX7_empty_42 : decode cX7_empty 42 = .ok (.goto (-16), 3) := by decide +kernel
theorem dX7_empty_45 : decode cX7_empty 45 = .ok (.aload_n 0, 1) := by decide +kernel
theorem dX7_empty_46 : decode cX7_empty 46 = .ok (.iload_n 2, 1) := by decide +kernel
theorem dX7_empty_47 : decode cX7_empty 47 = .ok (.invokevirtual 63, 3) := by decide +kernel
theorem dX7_empty_50 : decode cX7_empty 50 = .ok (.ireturn, 1) := by decide +kernel
theorem dX7_pour_0 : decode cX7_pour 0 = .ok (.aload_n 0, 1) := by decide +kernel
theorem dX7_pour_1 : decode cX7_pour 1 = .ok (.invokevirtual 60, 3) := by decide +kernel
theorem dX7_pour_4 : decode cX7_pour 4 = .ok (.aload_n 0, 1) := by decide +kernel
theorem dX7_pour_5 : decode cX7_pour 5 = .ok (.aload_n 0, 1) := by decide +kernel
theorem dX7_pour_6 : decode cX7_pour 6 = .ok (.iload_n 1, 1) := by decide +kernel
theorem dX7_pour_7 : decode cX7_pour 7 = .ok (.iload_n 2, 1) := by decide +kernel
theorem dX7_pour_8 : decode cX7_pour 8 = .ok (.iload_n 3, 1) := by decide +kernel
theorem dX7_pour_9 : decode cX7_pour 9 = .ok (.invokevirtual 135, 3) := by decide +kernel
theorem dX7_pour_12 : decode cX7_pour 12 = .ok (.invokevirtual 63, 3) := by decide +kernel
theorem dX7_pour_15 : decode cX7_pour 15 = .ok (.ireturn, 1) := by decide +kernel
theorem dX7_solve_0 : decode cX7_solve 0 = .ok (.aload_n 0, 1) := by decide +kernel
theorem dX7_solve_1 : decode cX7_solve 1 = .ok (.invokevirtual 60, 3) := by decide +kernel
theorem dX7_solve_4 : decode cX7_solve 4 = .ok (.aload_n 0, 1) := by decide +kernel
theorem dX7_solve_5 : decode cX7_solve 5 = .ok (.aload_n 0, 1) := by decide +kernel
theorem dX7_solve_6 : decode cX7_solve 6 = .ok (.iload_n 1, 1) := by decide +kernel
theorem dX7_solve_7 : decode cX7_solve 7 = .ok (.invokevirtual 139, 3) := by decide +kernel
theorem dX7_solve_10 : decode cX7_solve 10 = .ok (.invokevirtual 63, 3) := by decide +kernel
theorem dX7_solve_13 : decode cX7_solve 13 = .ok (.ireturn, 1) := by decide +kernel
theorem dX7_droplet_0 : decode cX7_droplet 0 = .ok (.iload_n 1, 1) := by decide +kernel
theorem dX7_droplet_1 : decode cX7_droplet 1 = .ok (.i2l, 1) := by decide +kernel
theorem dX7_droplet_2 : decode cX7_droplet 2 = .ok (.iconst 0, 1) := by decide +kernel
theorem dX7_droplet_3 : decode cX7_droplet 3 = .ok (.ldc 117, 2) := by decide +kernel
theorem dX7_droplet_5 : decode cX7_droplet 5 = .ok (.invokestatic 44, 3) := by decide +kernel
theorem dX7_droplet_8 : decode cX7_droplet 8 = .ok (.ifCond .eq 13, 3) := by decide +kernel
theorem dX7_droplet_11 : decode cX7_droplet 11 = .ok (.iload_n 2, 1) := by decide +kernel
theorem dX7_droplet_12 : decode cX7_droplet 12 = .ok (.i2l, 1) := by decide +kernel
theorem dX7_droplet_13 : decode cX7_droplet 13 = .ok (.iconst 0, 1) := by decide +kernel
theorem dX7_droplet_14 : decode cX7_droplet 14 = .ok (.iconst 3, 1) := by decide +kernel
theorem dX7_droplet_15 : decode cX7_droplet 15 = .ok (.invokestatic 44, 3) := by decide +kernel
theorem dX7_droplet_18 : decode cX7_droplet 18 = .ok (.ifCond .ne 6, 3) := by decide +kernel
theorem dX7_droplet_21 : decode cX7_droplet 21 = .ok (.bipush (-2), 2) := by decide +kernel
theorem dX7_droplet_23 : decode cX7_droplet 23 = .ok (.ireturn, 1) := by decide +kernel
theorem dX7_droplet_24 : decode cX7_droplet 24 = .ok (.aload_n 0, 1) := by decide +kernel
theorem dX7_droplet_25 : decode cX7_droplet 25 = .ok (.getfield 7, 3) := by decide +kernel
theorem dX7_droplet_28 : decode cX7_droplet 28 = .ok (.iconst 2, 1) := by decide +kernel
theorem dX7_droplet_29 : decode cX7_droplet 29 = .ok (.iaload, 1) := by decide +kernel
theorem dX7_droplet_30 : decode cX7_droplet 30 = .ok (.ifCond .ne 6, 3) := by decide +kernel
theorem dX7_droplet_33 : decode cX7_droplet 33 = .ok (.bipush (-5), 2) := by decide +kernel
theorem dX7_droplet_35 : decode cX7_droplet 35 = .ok (.ireturn, 1) := by decide +kernel
theorem dX7_droplet_36 : decode cX7_droplet 36 = .ok (.aload_n 0, 1) := by decide +kernel
theorem dX7_droplet_37 : decode cX7_droplet 37 = .ok (.iload_n 1, 1) := by decide +kernel
theorem dX7_droplet_38 : decode cX7_droplet 38 = .ok (.invokevirtual 110, 3) := by decide +kernel
theorem dX7_droplet_41 : decode cX7_droplet 41 = .ok (.iload_n 2, 1) := by decide +kernel
theorem dX7_droplet_42 : decode cX7_droplet 42 = .ok (.ifCond .ne 10, 3) := by decide +kernel
theorem dX7_droplet_45 : decode cX7_droplet 45 = .ok (.aload_n 0, 1) := by decide +kernel
theorem dX7_droplet_46 : decode cX7_droplet 46 = .ok (.getfield 78, 3) := by decide +kernel
theorem dX7_droplet_49 : decode cX7_droplet 49 = .ok (.goto 39, 3) := by decide +kernel
theorem dX7_droplet_52 : decode cX7_droplet 52 = .ok (.iload_n 2, 1) := by decide +kernel
theorem dX7_droplet_53 : decode cX7_droplet 53 = .ok (.iconst 1, 1) := by decide +kernel
theorem dX7_droplet_54 : decode cX7_droplet 54 = .ok (.if_icmp .ne 10, 3) := by decide +kernel
theorem dX7_droplet_57 : decode cX7_droplet 57 = .ok (.aload_n 0, 1) := by decide +kernel
theorem dX7_droplet_58 : decode cX7_droplet 58 = .ok (.getfield 81, 3) := by decide +kernel
theorem dX7_droplet_61 : decode cX7_droplet 61 = .ok (.goto 27, 3) := by decide +kernel
theorem dX7_droplet_64 : decode cX7_droplet 64 = .ok (.iload_n 2, 1) := by decide +kernel
theorem dX7_droplet_65 : decode cX7_droplet 65 = .ok (.iconst 2, 1) := by decide +kernel
theorem dX7_droplet_66 : decode cX7_droplet 66 = .ok (.if_icmp .ne 10, 3) := by decide +kernel
theorem dX7_droplet_69 : decode cX7_droplet 69 = .ok (.aload_n 0, 1) := by decide +kernel
theorem dX7_droplet_70 : decode cX7_droplet 70 = .ok (.getfield 84, 3) := by decide +kernel
theorem dX7_droplet_73 : decode cX7_droplet 73 = .ok (.goto 15, 3) := by decide +kernel
theorem dX7_droplet_76 : decode cX7_droplet 76 = .ok (.aload_n 0, 1) := by decide +kernel
theorem dX7_droplet_77 : decode cX7_droplet 77 = .ok (.getfield 71, 3) := by decide +kernel
theorem dX7_droplet_80 : decode cX7_droplet 80 = .ok (.ifCond .eq 7, 3) := by decide +kernel
theorem dX7_droplet_83 : decode cX7_droplet 83 = .ok (.iconst 1, 1) := by decide +kernel
theorem dX7_droplet_84 : decode cX7_droplet 84 = .ok (.goto 4, 3) := by decide +kernel
theorem dX7_droplet_87 : decode cX7_droplet 87 = .ok (.iconst 0, 1) := by decide +kernel
theorem dX7_droplet_88 : decode cX7_droplet 88 = .ok (.ireturn, 1) := by decide +kernel
theorem dX7_ofCup_0 : decode cX7_ofCup 0 = .ok (.aload_n 0, 1) := by decide +kernel
theorem dX7_ofCup_1 : decode cX7_ofCup 1 = .ok (.iload_n 1, 1) := by decide +kernel
theorem dX7_ofCup_2 : decode cX7_ofCup 2 = .ok (.invokevirtual 118, 3) := by decide +kernel
theorem dX7_ofCup_5 : decode cX7_ofCup 5 = .ok (.ifCond .ne 5, 3) := by decide +kernel
theorem dX7_ofCup_8 : decode cX7_ofCup 8 = .ok (.iconst (-1), 1) := by decide +kernel
theorem dX7_ofCup_9 : decode cX7_ofCup 9 = .ok (.ireturn, 1) := by decide +kernel
theorem dX7_ofCup_10 : decode cX7_ofCup 10 = .ok (.iload_n 2, 1) := by decide +kernel
theorem dX7_ofCup_11 : decode cX7_ofCup 11 = .ok (.tableswitch 81 0 6 #[41, 41, 41, 41, 41, 48, 62], 41) := by decide +kernel
theorem dX7_ofCup_52 : decode cX7_ofCup 52 = .ok (.aload_n 0, 1) := by decide +kernel
theorem dX7_ofCup_53 : decode cX7_ofCup 53 = .ok (.iload_n 1, 1) := by decide +kernel
theorem dX7_ofCup_54 : decode cX7_ofCup 54 = .ok (.iload_n 2, 1) := by decide +kernel
theorem dX7_ofCup_55 : decode cX7_ofCup 55 = .ok (.invokevirtual 48, 3) := by decide +kernel
theorem dX7_ofCup_58 : decode cX7_ofCup 58 = .ok (.ireturn, 1) := by decide +kernel
theorem dX7_ofCup_59 : decode cX7_ofCup 59 = .ok (.aload_n 0, 1) := by decide +kernel
theorem dX7_ofCup_60 : decode cX7_ofCup 60 = .ok (.iload_n 1, 1) := by decide +kernel
theorem dX7_ofCup_61 : decode cX7_ofCup 61 = .ok (.invokevirtual 142, 3) := by decide +kernel
theorem dX7_ofCup_64 : decode cX7_ofCup 64 = .ok (.ifCond .eq 7, 3) := by decide +kernel
theorem dX7_ofCup_67 : decode cX7_ofCup 67 = .ok (.iconst 1, 1) := by decide +kernel
theorem dX7_ofCup_68 : decode cX7_ofCup 68 = .ok (.goto 4, 3) := by decide +kernel
theorem dX7_ofCup_71 : decode cX7_ofCup 71 = .ok (.iconst 0, 1) := by decide +kernel
theorem dX7_ofCup_72 : decode cX7_ofCup 72 = .ok (.ireturn, 1) := by decide +kernel
theorem dX7_ofCup_73 : decode cX7_ofCup 73 = .ok (.aload_n 0, 1) := by decide +kernel
theorem dX7_ofCup_74 : decode cX7_ofCup 74 = .ok (.iload_n 1, 1) := by decide +kernel
theorem dX7_ofCup_75 : decode cX7_ofCup 75 = .ok (.iconst 0, 1) := by decide +kernel
theorem dX7_ofCup_76 : decode cX7_ofCup 76 = .ok (.invokevirtual 48, 3) := by decide +kernel
theorem dX7_ofCup_79 : decode cX7_ofCup 79 = .ok (.invokestatic 91, 3) := by decide +kernel
theorem dX7_ofCup_82 : decode cX7_ofCup 82 = .ok (.aload_n 0, 1) := by decide +kernel
theorem dX7_ofCup_83 : decode cX7_ofCup 83 = .ok (.iload_n 1, 1) := by decide +kernel
theorem dX7_ofCup_84 : decode cX7_ofCup 84 = .ok (.invokevirtual 126, 3) := by decide +kernel
theorem dX7_ofCup_87 : decode cX7_ofCup 87 = .ok (.invokestatic 91, 3) := by decide +kernel
theorem dX7_ofCup_90 : decode cX7_ofCup 90 = .ok (.iadd, 1) := by decide +kernel
theorem dX7_ofCup_91 : decode cX7_ofCup 91 = .ok (.ireturn, 1) := by decide +kernel
theorem dX7_ofCup_92 : decode cX7_ofCup 92 = .ok (.bipush (-2), 2) := by decide +kernel
theorem dX7_ofCup_94 : decode cX7_ofCup 94 = .ok (.ireturn, 1) := by decide +kernel
theorem dX7_known_0 : decode cX7_known 0 = .ok (.aload_n 0, 1) := by decide +kernel
theorem dX7_known_1 : decode cX7_known 1 = .ok (.iload_n 1, 1) := by decide +kernel
theorem dX7_known_2 : decode cX7_known 2 = .ok (.invokevirtual 118, 3) := by decide +kernel
theorem dX7_known_5 : decode cX7_known 5 = .ok (.ifCond .eq 20, 3) := by decide +kernel
theorem dX7_known_8 : decode cX7_known 8 = .ok (.iload_n 2, 1) := by decide +kernel
theorem dX7_known_9 : decode cX7_known 9 = .ok (.i2l, 1) := by decide +kernel
theorem dX7_known_10 : decode cX7_known 10 = .ok (.iconst 0, 1) := by decide +kernel
theorem dX7_known_11 : decode cX7_known 11 = .ok (.aload_n 0, 1) := by decide +kernel
theorem dX7_known_12 : decode cX7_known 12 = .ok (.getfield 7, 3) := by decide +kernel
theorem dX7_known_15 : decode cX7_known 15 = .ok (.iconst 2, 1) := by decide +kernel
theorem dX7_known_16 : decode cX7_known 16 = .ok (.iaload, 1) := by decide +kernel
theorem dX7_known_17 : decode cX7_known 17 = .ok (.iconst 1, 1) := by decide +kernel
theorem dX7_known_18 : decode cX7_known 18 = .ok (.isub, 1) := by decide +kernel
theorem dX7_known_19 : decode cX7_known 19 = .ok (.invokestatic 44, 3) := by decide +kernel
theorem dX7_known_22 : decode cX7_known 22 = .ok (.ifCond .ne 5, 3) := by decide +kernel
theorem dX7_known_25 : decode cX7_known 25 = .ok (.iconst (-1), 1) := by decide +kernel
theorem dX7_known_26 : decode cX7_known 26 = .ok (.ireturn, 1) := by decide +kernel
theorem dX7_known_27 : decode cX7_known 27 = .ok (.aload_n 0, 1) := by decide +kernel
theorem dX7_known_28 : decode cX7_known 28 = .ok (.iload_n 1, 1) := by decide +kernel
theorem dX7_known_29 : decode cX7_known 29 = .ok (.iconst 0, 1) := by decide +kernel
theorem dX7_known_30 : decode cX7_known 30 = .ok (.invokevirtual 48, 3) := by decide +kernel
theorem dX7_known_33 : decode cX7_known 33 = .ok (.iload_n 2, 1) := by decide +kernel
theorem dX7_known_34 : decode cX7_known 34 = .ok (.ishr, 1) := by decide +kernel
theorem dX7_known_35 : decode cX7_known 35 = .ok (.iconst 1, 1) := by decide +kernel
theorem dX7_known_36 : decode cX7_known 36 = .ok (.iand, 1) := by decide +kernel
theorem dX7_known_37 : decode cX7_known 37 = .ok (.iconst 1, 1) := by decide +kernel
theorem dX7_known_38 : decode cX7_known 38 = .ok (.if_icmp .ne 14, 3) := by decide +kernel
theorem dX7_known_41 : decode cX7_known 41 = .ok (.aload_n 0, 1) := by decide +kernel
theorem dX7_known_42 : decode cX7_known 42 = .ok (.iload_n 1, 1) := by decide +kernel
theorem dX7_known_43 : decode cX7_known 43 = .ok (.iconst 5, 1) := by decide +kernel
theorem dX7_known_44 : decode cX7_known 44 = .ok (.iload_n 2, 1) := by decide +kernel
theorem dX7_known_45 : decode cX7_known 45 = .ok (.iadd, 1) := by decide +kernel
theorem dX7_known_46 : decode cX7_known 46 = .ok (.invokevirtual 48, 3) := by decide +kernel
theorem dX7_known_49 : decode cX7_known 49 = .ok (.goto 5, 3) := by decide +kernel
theorem dX7_known_52 : decode cX7_known 52 = .ok (.bipush (-6), 2) := by decide +kernel
theorem dX7_known_54 : decode cX7_known 54 = .ok (.ireturn, 1) := by decide +kernel
theorem dX7_kept_0 : decode cX7_kept 0 = .ok (.aload_n 0, 1) := by decide +kernel
theorem dX7_kept_1 : decode cX7_kept 1 = .ok (.iload_n 1, 1) := by decide +kernel
theorem dX7_kept_2 : decode cX7_kept 2 = .ok (.invokevirtual 118, 3) := by decide +kernel
theorem dX7_kept_5 : decode cX7_kept 5 = .ok (.ifCond .eq 20, 3) := by decide +kernel
theorem dX7_kept_8 : decode cX7_kept 8 = .ok (.iload_n 2, 1) := by decide +kernel
theorem dX7_kept_9 : decode cX7_kept 9 = .ok (.i2l, 1) := by decide +kernel
theorem dX7_kept_10 : decode cX7_kept 10 = .ok (.iconst 0, 1) := by decide +kernel
theorem dX7_kept_11 : decode cX7_kept 11 = .ok (.aload_n 0, 1) := by decide +kernel
theorem dX7_kept_12 : decode cX7_kept 12 = .ok (.iload_n 1, 1) := by decide +kernel
theorem dX7_kept_13 : decode cX7_kept 13 = .ok (.iconst 1, 1) := by decide +kernel
theorem dX7_kept_14 : decode cX7_kept 14 = .ok (.invokevirtual 48, 3) := by decide +kernel
theorem dX7_kept_17 : decode cX7_kept 17 = .ok (.iconst 1, 1) := by decide +kernel
theorem dX7_kept_18 : decode cX7_kept 18 = .ok (.isub, 1) := by decide +kernel
theorem dX7_kept_19 : decode cX7_kept 19 = .ok (.invokestatic 44, 3) := by decide +kernel
theorem dX7_kept_22 : decode cX7_kept 22 = .ok (.ifCond .ne 5, 3) := by decide +kernel
theorem dX7_kept_25 : decode cX7_kept 25 = .ok (.iconst (-1), 1) := by decide +kernel
theorem dX7_kept_26 : decode cX7_kept 26 = .ok (.ireturn, 1) := by decide +kernel
theorem dX7_kept_27 : decode cX7_kept 27 = .ok (.iload_n 3, 1) := by decide +kernel
theorem dX7_kept_28 : decode cX7_kept 28 = .ok (.ifCond .ne 15, 3) := by decide +kernel
theorem dX7_kept_31 : decode cX7_kept 31 = .ok (.aload_n 0, 1) := by decide +kernel
theorem dX7_kept_32 : decode cX7_kept 32 = .ok (.iload_n 1, 1) := by decide +kernel
theorem dX7_kept_33 : decode cX7_kept 33 = .ok (.bipush 21, 2) := by decide +kernel
theorem dX7_kept_35 : decode cX7_kept 35 = .ok (.iload_n 2, 1) := by decide +kernel
theorem dX7_kept_36 : decode cX7_kept 36 = .ok (.iadd, 1) := by decide +kernel
theorem dX7_kept_37 : decode cX7_kept 37 = .ok (.invokevirtual 48, 3) := by decide +kernel
theorem dX7_kept_40 : decode cX7_kept 40 = .ok (.goto 22, 3) := by decide +kernel
theorem dX7_kept_43 : decode cX7_kept 43 = .ok (.iload_n 3, 1) := by decide +kernel
theorem dX7_kept_44 : decode cX7_kept 44 = .ok (.iconst 1, 1) := by decide +kernel
theorem dX7_kept_45 : decode cX7_kept 45 = .ok (.if_icmp .ne 15, 3) := by decide +kernel
theorem dX7_kept_48 : decode cX7_kept 48 = .ok (.aload_n 0, 1) := by decide +kernel
theorem dX7_kept_49 : decode cX7_kept 49 = .ok (.iload_n 1, 1) := by decide +kernel
theorem dX7_kept_50 : decode cX7_kept 50 = .ok (.bipush 45, 2) := by decide +kernel
theorem dX7_kept_52 : decode cX7_kept 52 = .ok (.iload_n 2, 1) := by decide +kernel
theorem dX7_kept_53 : decode cX7_kept 53 = .ok (.iadd, 1) := by decide +kernel
theorem dX7_kept_54 : decode cX7_kept 54 = .ok (.invokevirtual 48, 3) := by decide +kernel
theorem dX7_kept_57 : decode cX7_kept 57 = .ok (.goto 5, 3) := by decide +kernel
theorem dX7_kept_60 : decode cX7_kept 60 = .ok (.bipush (-2), 2) := by decide +kernel
theorem dX7_kept_62 : decode cX7_kept 62 = .ok (.ireturn, 1) := by decide +kernel
theorem dX7_fullCups_0 : decode cX7_fullCups 0 = .ok (.iconst 0, 1) := by decide +kernel
theorem dX7_fullCups_1 : decode cX7_fullCups 1 = .ok (.istore_n 1, 1) := by decide +kernel
theorem dX7_fullCups_2 : decode cX7_fullCups 2 = .ok (.iconst 0, 1) := by decide +kernel
theorem dX7_fullCups_3 : decode cX7_fullCups 3 = .ok (.istore_n 2, 1) := by decide +kernel
theorem dX7_fullCups_4 : decode cX7_fullCups 4 = .ok (.iload_n 2, 1) := by decide +kernel
theorem dX7_fullCups_5 : decode cX7_fullCups 5 = .ok (.aload_n 0, 1) := by decide +kernel
theorem dX7_fullCups_6 : decode cX7_fullCups 6 = .ok (.getfield 7, 3) := by decide +kernel
theorem dX7_fullCups_9 : decode cX7_fullCups 9 = .ok (.iconst 3, 1) := by decide +kernel
theorem dX7_fullCups_10 : decode cX7_fullCups 10 = .ok (.iaload, 1) := by decide +kernel
theorem dX7_fullCups_11 : decode cX7_fullCups 11 = .ok (.if_icmp .ge 27, 3) := by decide +kernel
theorem dX7_fullCups_14 : decode cX7_fullCups 14 = .ok (.iload_n 1, 1) := by decide +kernel
theorem dX7_fullCups_15 : decode cX7_fullCups 15 = .ok (.aload_n 0, 1) := by decide +kernel
theorem dX7_fullCups_16 : decode cX7_fullCups 16 = .ok (.iload_n 2, 1) := by decide +kernel
theorem dX7_fullCups_17 : decode cX7_fullCups 17 = .ok (.invokevirtual 142, 3) := by decide +kernel
theorem dX7_fullCups_20 : decode cX7_fullCups 20 = .ok (.ifCond .eq 9, 3) := by decide +kernel
theorem dX7_fullCups_23 : decode cX7_fullCups 23 = .ok (.iconst 1, 1) := by decide +kernel
theorem dX7_fullCups_24 : decode cX7_fullCups 24 = .ok (.iload_n 2, 1) := by decide +kernel
theorem dX7_fullCups_25 : decode cX7_fullCups 25 = .ok (.ishl, 1) := by decide +kernel
theorem dX7_fullCups_26 : decode cX7_fullCups 26 = .ok (.goto 4, 3) := by decide +kernel
theorem dX7_fullCups_29 : decode cX7_fullCups 29 = .ok (.iconst 0, 1) := by decide +kernel
theorem dX7_fullCups_30 : decode cX7_fullCups 30 = .ok (.ior, 1) := by decide +kernel
theorem dX7_fullCups_31 : decode cX7_fullCups 31 = .ok (.istore_n 1, 1) := by decide +kernel
theorem dX7_fullCups_32 : decode cX7_fullCups 32 = .ok (.iinc 2 1, 3) := by decide +kernel
theorem dX7_fullCups_35 : decode cX7_fullCups 35 = .ok (.goto (-31), 3) := by decide +kernel
theorem dX7_fullCups_38 : decode cX7_fullCups 38 = .ok (.iload_n 1, 1) := by decide +kernel
theorem dX7_fullCups_39 : decode cX7_fullCups 39 = .ok (.ireturn, 1) := by decide +kernel
theorem dX7_count_0 : decode cX7_count 0 = .ok (.iload_n 1, 1) := by decide +kernel
theorem dX7_count_1 : decode cX7_count 1 = .ok (.tableswitch 92 0 7 #[47, 54, 61, 66, 73, 73, 82, 87], 47) := by decide +kernel
theorem dX7_count_48 : decode cX7_count 48 = .ok (.aload_n 0, 1) := by decide +kernel
theorem dX7_count_49 : decode cX7_count 49 = .ok (.getfield 7, 3) := by decide +kernel
theorem dX7_count_52 : decode cX7_count 52 = .ok (.iconst 2, 1) := by decide +kernel
theorem dX7_count_53 : decode cX7_count 53 = .ok (.iaload, 1) := by decide +kernel
theorem dX7_count_54 : decode cX7_count 54 = .ok (.ireturn, 1) := by decide +kernel
theorem dX7_count_55 : decode cX7_count 55 = .ok (.aload_n 0, 1) := by decide +kernel
theorem dX7_count_56 : decode cX7_count 56 = .ok (.getfield 7, 3) := by decide +kernel
theorem dX7_count_59 : decode cX7_count 59 = .ok (.iconst 3, 1) := by decide +kernel
theorem dX7_count_60 : decode cX7_count 60 = .ok (.iaload, 1) := by decide +kernel
theorem dX7_count_61 : decode cX7_count 61 = .ok (.ireturn, 1) := by decide +kernel
theorem dX7_count_62 : decode cX7_count 62 = .ok (.aload_n 0, 1) := by decide +kernel
theorem dX7_count_63 : decode cX7_count 63 = .ok (.invokevirtual 145, 3) := by decide +kernel
theorem dX7_count_66 : decode cX7_count 66 = .ok (.ireturn, 1) := by decide +kernel
theorem dX7_count_67 : decode cX7_count 67 = .ok (.aload_n 0, 1) := by decide +kernel
theorem dX7_count_68 : decode cX7_count 68 = .ok (.getfield 7, 3) := by decide +kernel
theorem dX7_count_71 : decode cX7_count 71 = .ok (.iconst 4, 1) := by decide +kernel
theorem dX7_count_72 : decode cX7_count 72 = .ok (.iaload, 1) := by decide +kernel
theorem dX7_count_73 : decode cX7_count 73 = .ok (.ireturn, 1) := by decide +kernel
theorem dX7_count_74 : decode cX7_count 74 = .ok (.aload_n 0, 1) := by decide +kernel
theorem dX7_count_75 : decode cX7_count 75 = .ok (.getfield 7, 3) := by decide +kernel
theorem dX7_count_78 : decode cX7_count 78 = .ok (.iload_n 1, 1) := by decide +kernel
theorem dX7_count_79 : decode cX7_count 79 = .ok (.iconst 4, 1) := by decide +kernel
theorem dX7_count_80 : decode cX7_count 80 = .ok (.isub, 1) := by decide +kernel
theorem dX7_count_81 : decode cX7_count 81 = .ok (.iaload, 1) := by decide +kernel
theorem dX7_count_82 : decode cX7_count 82 = .ok (.ireturn, 1) := by decide +kernel
theorem dX7_count_83 : decode cX7_count 83 = .ok (.aload_n 0, 1) := by decide +kernel
theorem dX7_count_84 : decode cX7_count 84 = .ok (.getfield 148, 3) := by decide +kernel
theorem dX7_count_87 : decode cX7_count 87 = .ok (.ireturn, 1) := by decide +kernel
theorem dX7_count_88 : decode cX7_count 88 = .ok (.aload_n 0, 1) := by decide +kernel
theorem dX7_count_89 : decode cX7_count 89 = .ok (.getfield 56, 3) := by decide +kernel
theorem dX7_count_92 : decode cX7_count 92 = .ok (.ireturn, 1) := by decide +kernel
theorem dX7_count_93 : decode cX7_count 93 = .ok (.bipush (-2), 2) := by decide +kernel
theorem dX7_count_95 : decode cX7_count 95 = .ok (.ireturn, 1) := by decide +kernel
theorem dX7_refusal_0 : decode cX7_refusal 0 = .ok (.aload_n 0, 1) := by decide +kernel
theorem dX7_refusal_1 : decode cX7_refusal 1 = .ok (.iload_n 1, 1) := by decide +kernel
theorem dX7_refusal_2 : decode cX7_refusal 2 = .ok (.invokevirtual 118, 3) := by decide +kernel
theorem dX7_refusal_5 : decode cX7_refusal 5 = .ok (.ifCond .ne 7, 3) := by decide +kernel
theorem dX7_refusal_8 : decode cX7_refusal 8 = .ok (.iconst (-1), 1) := by decide +kernel
theorem dX7_refusal_9 : decode cX7_refusal 9 = .ok (.goto 34, 3) := by decide +kernel
theorem dX7_refusal_12 : decode cX7_refusal 12 = .ok (.iload_n 2, 1) := by decide +kernel
theorem dX7_refusal_13 : decode cX7_refusal 13 = .ok (.i2l, 1) := by decide +kernel
theorem dX7_refusal_14 : decode cX7_refusal 14 = .ok (.iconst 0, 1) := by decide +kernel
theorem dX7_refusal_15 : decode cX7_refusal 15 = .ok (.ldc 117, 2) := by decide +kernel
theorem dX7_refusal_17 : decode cX7_refusal 17 = .ok (.invokestatic 44, 3) := by decide +kernel
theorem dX7_refusal_20 : decode cX7_refusal 20 = .ok (.ifCond .ne 8, 3) := by decide +kernel
theorem dX7_refusal_23 : decode cX7_refusal 23 = .ok (.bipush (-2), 2) := by decide +kernel
theorem dX7_refusal_25 : decode cX7_refusal 25 = .ok (.goto 18, 3) := by decide +kernel
theorem dX7_refusal_28 : decode cX7_refusal 28 = .ok (.aload_n 0, 1) := by decide +kernel
theorem dX7_refusal_29 : decode cX7_refusal 29 = .ok (.getfield 7, 3) := by decide +kernel
theorem dX7_refusal_32 : decode cX7_refusal 32 = .ok (.iconst 2, 1) := by decide +kernel
theorem dX7_refusal_33 : decode cX7_refusal 33 = .ok (.iaload, 1) := by decide +kernel
theorem dX7_refusal_34 : decode cX7_refusal 34 = .ok (.ifCond .ne 8, 3) := by decide +kernel
theorem dX7_refusal_37 : decode cX7_refusal 37 = .ok (.bipush (-5), 2) := by decide +kernel
theorem dX7_refusal_39 : decode cX7_refusal 39 = .ok (.goto 4, 3) := by decide +kernel
theorem dX7_refusal_42 : decode cX7_refusal 42 = .ok (.iconst 0, 1) := by decide +kernel
theorem dX7_refusal_43 : decode cX7_refusal 43 = .ok (.ireturn, 1) := by decide +kernel
theorem dX7_would_0 : decode cX7_would 0 = .ok (.aload_n 0, 1) := by decide +kernel
theorem dX7_would_1 : decode cX7_would 1 = .ok (.iload_n 1, 1) := by decide +kernel
theorem dX7_would_2 : decode cX7_would 2 = .ok (.iload_n 2, 1) := by decide +kernel
theorem dX7_would_3 : decode cX7_would 3 = .ok (.invokevirtual 151, 3) := by decide +kernel
theorem dX7_would_6 : decode cX7_would 6 = .ok (.istore_n 3, 1) := by decide +kernel
theorem dX7_would_7 : decode cX7_would 7 = .ok (.iload_n 3, 1) := by decide +kernel
theorem dX7_would_8 : decode cX7_would 8 = .ok (.ifCond .ge 5, 3) := by decide +kernel
theorem dX7_would_11 : decode cX7_would 11 = .ok (.iload_n 3, 1) := by decide +kernel
theorem dX7_would_12 : decode cX7_would 12 = .ok (.ireturn, 1) := by decide +kernel
theorem dX7_would_13 : decode cX7_would 13 = .ok (.aload_n 0, 1) := by decide +kernel
theorem dX7_would_14 : decode cX7_would 14 = .ok (.iload_n 2, 1) := by decide +kernel
theorem dX7_would_15 : decode cX7_would 15 = .ok (.invokevirtual 110, 3) := by decide +kernel
theorem dX7_would_18 : decode cX7_would 18 = .ok (.aload_n 0, 1) := by decide +kernel
theorem dX7_would_19 : decode cX7_would 19 = .ok (.getfield 71, 3) := by decide +kernel
theorem dX7_would_22 : decode cX7_would 22 = .ok (.ifCond .eq 5, 3) := by decide +kernel
theorem dX7_would_25 : decode cX7_would 25 = .ok (.iconst 0, 1) := by decide +kernel
theorem dX7_would_26 : decode cX7_would 26 = .ok (.ireturn, 1) := by decide +kernel
theorem dX7_would_27 : decode cX7_would 27 = .ok (.aload_n 0, 1) := by decide +kernel
theorem dX7_would_28 : decode cX7_would 28 = .ok (.invokevirtual 154, 3) := by decide +kernel
theorem dX7_would_31 : decode cX7_would 31 = .ok (.aload_n 0, 1) := by decide +kernel
theorem dX7_would_32 : decode cX7_would 32 = .ok (.iload_n 1, 1) := by decide +kernel
theorem dX7_would_33 : decode cX7_would 33 = .ok (.invokevirtual 114, 3) := by decide +kernel
theorem dX7_would_36 : decode cX7_would 36 = .ok (.istore 4, 2) := by decide +kernel
theorem dX7_would_38 : decode cX7_would 38 = .ok (.aload_n 0, 1) := by decide +kernel
theorem dX7_would_39 : decode cX7_would 39 = .ok (.invokevirtual 157, 3) := by decide +kernel
theorem dX7_would_42 : decode cX7_would 42 = .ok (.iconst 1, 1) := by decide +kernel
theorem dX7_would_43 : decode cX7_would 43 = .ok (.iload 4, 2) := by decide +kernel
theorem dX7_would_45 : decode cX7_would 45 = .ok (.iadd, 1) := by decide +kernel
theorem dX7_would_46 : decode cX7_would 46 = .ok (.ireturn, 1) := by decide +kernel
theorem dX7_needs_0 : decode cX7_needs 0 = .ok (.aload_n 0, 1) := by decide +kernel
theorem dX7_needs_1 : decode cX7_needs 1 = .ok (.iload_n 1, 1) := by decide +kernel
theorem dX7_needs_2 : decode cX7_needs 2 = .ok (.iload_n 2, 1) := by decide +kernel
theorem dX7_needs_3 : decode cX7_needs 3 = .ok (.invokevirtual 151, 3) := by decide +kernel
theorem dX7_needs_6 : decode cX7_needs 6 = .ok (.istore_n 3, 1) := by decide +kernel
theorem dX7_needs_7 : decode cX7_needs 7 = .ok (.iload_n 3, 1) := by decide +kernel
theorem dX7_needs_8 : decode cX7_needs 8 = .ok (.ifCond .ge 5, 3) := by decide +kernel
theorem dX7_needs_11 : decode cX7_needs 11 = .ok (.iload_n 3, 1) := by decide +kernel
theorem dX7_needs_12 : decode cX7_needs 12 = .ok (.ireturn, 1) := by decide +kernel
theorem dX7_needs_13 : decode cX7_needs 13 = .ok (.aload_n 0, 1) := by decide +kernel
theorem dX7_needs_14 : decode cX7_needs 14 = .ok (.invokevirtual 154, 3) := by decide +kernel
theorem dX7_needs_17 : decode cX7_needs 17 = .ok (.iconst 0, 1) := by decide +kernel
theorem dX7_needs_18 : decode cX7_needs 18 = .ok (.istore 4, 2) := by decide +kernel
theorem dX7_needs_20 : decode cX7_needs 20 = .ok (.iload 4, 2) := by decide +kernel
theorem dX7_needs_22 : decode cX7_needs 22 = .ok (.sipush 500, 3) := by decide +kernel
theorem dX7_needs_25 : decode cX7_needs 25 = .ok (.if_icmp .ge 31, 3) := by decide +kernel
theorem dX7_needs_28 : decode cX7_needs 28 = .ok (.aload_n 0, 1) := by decide +kernel
theorem dX7_needs_29 : decode cX7_needs 29 = .ok (.iload_n 1, 1) := by decide +kernel
theorem dX7_needs_30 : decode cX7_needs 30 = .ok (.invokevirtual 142, 3) := by decide +kernel
theorem dX7_needs_33 : decode cX7_needs 33 = .ok (.ifCond .ne 23, 3) := by decide +kernel
theorem dX7_needs_36 : decode cX7_needs 36 = .ok (.aload_n 0, 1) := by decide +kernel
theorem dX7_needs_37 : decode cX7_needs 37 = .ok (.iload_n 1, 1) := by decide +kernel
theorem dX7_needs_38 : decode cX7_needs 38 = .ok (.iload_n 2, 1) := by decide +kernel
theorem dX7_needs_39 : decode cX7_needs 39 = .ok (.iload 4, 2) := by decide +kernel
theorem dX7_needs_41 : decode cX7_needs 41 = .ok (.iadd, 1) := by decide +kernel
theorem dX7_needs_42 : decode cX7_needs 42 = .ok (.ldc 122, 2) := by decide +kernel
theorem dX7_needs_44 : decode cX7_needs 44 = .ok (.irem, 1) := by decide +kernel
theorem dX7_needs_45 : decode cX7_needs 45 = .ok (.invokevirtual 123, 3) := by decide +kernel
theorem dX7_needs_48 : decode cX7_needs 48 = .ok (.istore 5, 2) := by decide +kernel
theorem dX7_needs_50 : decode cX7_needs 50 = .ok (.iinc 4 1, 3) := by decide +kernel
theorem dX7_needs_53 : decode cX7_needs 53 = .ok (.goto (-33), 3) := by decide +kernel
theorem dX7_needs_56 : decode cX7_needs 56 = .ok (.aload_n 0, 1) := by decide +kernel
theorem dX7_needs_57 : decode cX7_needs 57 = .ok (.iload_n 1, 1) := by decide +kernel
theorem dX7_needs_58 : decode cX7_needs 58 = .ok (.invokevirtual 142, 3) := by decide +kernel
theorem dX7_needs_61 : decode cX7_needs 61 = .ok (.istore 5, 2) := by decide +kernel
theorem dX7_needs_63 : decode cX7_needs 63 = .ok (.aload_n 0, 1) := by decide +kernel
theorem dX7_needs_64 : decode cX7_needs 64 = .ok (.invokevirtual 157, 3) := by decide +kernel
theorem dX7_needs_67 : decode cX7_needs 67 = .ok (.iload 5, 2) := by decide +kernel
theorem dX7_needs_69 : decode cX7_needs 69 = .ok (.ifCond .eq 8, 3) := by decide +kernel
theorem dX7_needs_72 : decode cX7_needs 72 = .ok (.iload 4, 2) := by decide +kernel
theorem dX7_needs_74 : decode cX7_needs 74 = .ok (.goto 5, 3) := by decide +kernel
theorem dX7_needs_77 : decode cX7_needs 77 = .ok (.bipush (-6), 2) := by decide +kernel
theorem dX7_needs_79 : decode cX7_needs 79 = .ok (.ireturn, 1) := by decide +kernel
theorem dX7_degrees_0 : decode cX7_degrees 0 = .ok (.iload_n 1, 1) := by decide +kernel
theorem dX7_degrees_1 : decode cX7_degrees 1 = .ok (.i2l, 1) := by decide +kernel
theorem dX7_degrees_2 : decode cX7_degrees 2 = .ok (.iconst 0, 1) := by decide +kernel
theorem dX7_degrees_3 : decode cX7_degrees 3 = .ok (.ldc 117, 2) := by decide +kernel
theorem dX7_degrees_5 : decode cX7_degrees 5 = .ok (.invokestatic 44, 3) := by decide +kernel
theorem dX7_degrees_8 : decode cX7_degrees 8 = .ok (.ifCond .eq 26, 3) := by decide +kernel
theorem dX7_degrees_11 : decode cX7_degrees 11 = .ok (.iload_n 2, 1) := by decide +kernel
theorem dX7_degrees_12 : decode cX7_degrees 12 = .ok (.i2l, 1) := by decide +kernel
theorem dX7_degrees_13 : decode cX7_degrees 13 = .ok (.iconst 1, 1) := by decide +kernel
theorem dX7_degrees_14 : decode cX7_degrees 14 = .ok (.sipush 999, 3) := by decide +kernel
theorem dX7_degrees_17 : decode cX7_degrees 17 = .ok (.invokestatic 44, 3) := by decide +kernel
theorem dX7_degrees_20 : decode cX7_degrees 20 = .ok (.ifCond .eq 14, 3) := by decide +kernel
theorem dX7_degrees_23 : decode cX7_degrees 23 = .ok (.iload_n 3, 1) := by decide +kernel
theorem dX7_degrees_24 : decode cX7_degrees 24 = .ok (.i2l, 1) := by decide +kernel
theorem dX7_degrees_25 : decode cX7_degrees 25 = .ok (.iconst 1, 1) := by decide +kernel
theorem dX7_degrees_26 : decode cX7_degrees 26 = .ok (.bipush 16, 2) := by decide +kernel
theorem dX7_degrees_28 : decode cX7_degrees 28 = .ok (.invokestatic 44, 3) := by decide +kernel
theorem dX7_degrees_31 : decode cX7_degrees 31 = .ok (.ifCond .ne 6, 3) := by decide +kernel
theorem dX7_degrees_34 : decode cX7_degrees 34 = .ok (.bipush (-2), 2) := by decide +kernel
theorem dX7_degrees_36 : decode cX7_degrees 36 = .ok (.ireturn, 1) := by decide +kernel
theorem dX7_degrees_37 : decode cX7_degrees 37 = .ok (.aload_n 0, 1) := by decide +kernel
theorem dX7_degrees_38 : decode cX7_degrees 38 = .ok (.getfield 7, 3) := by decide +kernel
theorem dX7_degrees_41 : decode cX7_degrees 41 = .ok (.iconst 2, 1) := by decide +kernel
theorem dX7_degrees_42 : decode cX7_degrees 42 = .ok (.iaload, 1) := by decide +kernel
theorem dX7_degrees_43 : decode cX7_degrees 43 = .ok (.ifCond .ne 6, 3) := by decide +kernel
theorem dX7_degrees_46 : decode cX7_degrees 46 = .ok (.bipush (-5), 2) := by decide +kernel
theorem dX7_degrees_48 : decode cX7_degrees 48 = .ok (.ireturn, 1) := by decide +kernel
theorem dX7_degrees_49 : decode cX7_degrees 49 = .ok (.iconst 0, 1) := by decide +kernel
theorem dX7_degrees_50 : decode cX7_degrees 50 = .ok (.istore 4, 2) := by decide +kernel
theorem dX7_degrees_52 : decode cX7_degrees 52 = .ok (.iconst 0, 1) := by decide +kernel
theorem dX7_degrees_53 : decode cX7_degrees 53 = .ok (.istore 5, 2) := by decide +kernel
theorem dX7_degrees_55 : decode cX7_degrees 55 = .ok (.iload 5, 2) := by decide +kernel
theorem dX7_degrees_57 : decode cX7_degrees 57 = .ok (.iload_n 2, 1) := by decide +kernel
theorem dX7_degrees_58 : decode cX7_degrees 58 = .ok (.if_icmp .ge 40, 3) := by decide +kernel
theorem dX7_degrees_61 : decode cX7_degrees 61 = .ok (.iload 4, 2) := by decide +kernel
theorem dX7_degrees_63 : decode cX7_degrees 63 = .ok (.aload_n 0, 1) := by decide +kernel
theorem dX7_degrees_64 : decode cX7_degrees 64 = .ok (.iload_n 1, 1) := by decide +kernel
theorem dX7_degrees_65 : decode cX7_degrees 65 = .ok (.iload 5, 2) := by decide +kernel
theorem dX7_degrees_67 : decode cX7_degrees 67 = .ok (.iadd, 1) := by decide +kernel
theorem dX7_degrees_68 : decode cX7_degrees 68 = .ok (.ldc 122, 2) := by decide +kernel
theorem dX7_degrees_70 : decode cX7_degrees 70 = .ok (.irem, 1) := by decide +kernel
theorem dX7_degrees_71 : decode cX7_degrees 71 = .ok (.invokestatic 68, 3) := by decide +kernel
theorem dX7_degrees_74 : decode cX7_degrees 74 = .ok (.invokestatic 68, 3) := by decide +kernel
theorem dX7_degrees_77 : decode cX7_degrees 77 = .ok (.invokevirtual 75, 3) := by decide +kernel
theorem dX7_degrees_80 : decode cX7_degrees 80 = .ok (.iload_n 3, 1) := by decide +kernel
theorem dX7_degrees_81 : decode cX7_degrees 81 = .ok (.if_icmp .ne 7, 3) := by decide +kernel
theorem dX7_degrees_84 : decode cX7_degrees 84 = .ok (.iconst 1, 1) := by decide +kernel
theorem dX7_degrees_85 : decode cX7_degrees 85 = .ok (.goto 4, 3) := by decide +kernel
theorem dX7_degrees_88 : decode cX7_degrees 88 = .ok (.iconst 0, 1) := by decide +kernel
theorem dX7_degrees_89 : decode cX7_degrees 89 = .ok (.iadd, 1) := by decide +kernel
theorem dX7_degrees_90 : decode cX7_degrees 90 = .ok (.istore 4, 2) := by decide +kernel
theorem dX7_degrees_92 : decode cX7_degrees 92 = .ok (.iinc 5 1, 3) := by decide +kernel
theorem dX7_degrees_95 : decode cX7_degrees 95 = .ok (.goto (-40), 3) := by decide +kernel
theorem dX7_degrees_98 : decode cX7_degrees 98 = .ok (.iload 4, 2) := by decide +kernel
theorem dX7_degrees_100 : decode cX7_degrees 100 = .ok (.ireturn, 1) := by decide +kernel
theorem dX7_put_0 : decode cX7_put 0 = .ok (.lload_n 1, 1) := by decide +kernel
theorem dX7_put_1 : decode cX7_put 1 = .ok (.lstore_n 3, 1) := by decide +kernel
theorem dX7_put_2 : decode cX7_put 2 = .ok (.iconst 0, 1) := by decide +kernel
theorem dX7_put_3 : decode cX7_put 3 = .ok (.istore 5, 2) := by decide +kernel
theorem dX7_put_5 : decode cX7_put 5 = .ok (.lload_n 3, 1) := by decide +kernel
theorem dX7_put_6 : decode cX7_put 6 = .ok (.lconst 0, 1) := by decide +kernel
theorem dX7_put_7 : decode cX7_put 7 = .ok (.lcmp, 1) := by decide +kernel
theorem dX7_put_8 : decode cX7_put 8 = .ok (.ifCond .eq 55, 3) := by decide +kernel
theorem dX7_put_11 : decode cX7_put 11 = .ok (.iload 5, 2) := by decide +kernel
theorem dX7_put_13 : decode cX7_put 13 = .ok (.bipush 8, 2) := by decide +kernel
theorem dX7_put_15 : decode cX7_put 15 = .ok (.if_icmp .ge 48, 3) := by decide +kernel
theorem dX7_put_18 : decode cX7_put 18 = .ok (.aload_n 0, 1) := by decide +kernel
theorem dX7_put_19 : decode cX7_put 19 = .ok (.getfield 32, 3) := by decide +kernel
theorem dX7_put_22 : decode cX7_put 22 = .ok (.iload 5, 2) := by decide +kernel
theorem dX7_put_24 : decode cX7_put 24 = .ok (.lload_n 3, 1) := by decide +kernel
theorem dX7_put_25 : decode cX7_put 25 = .ok (.ldc2_w 160, 3) := by decide +kernel
theorem dX7_put_28 : decode cX7_put 28 = .ok (.land, 1) := by decide +kernel
theorem dX7_put_29 : decode cX7_put 29 = .ok (.l2i, 1) := by decide +kernel
theorem dX7_put_30 : decode cX7_put 30 = .ok (.iastore, 1) := by decide +kernel
theorem dX7_put_31 : decode cX7_put 31 = .ok (.aload_n 0, 1) := by decide +kernel
theorem dX7_put_32 : decode cX7_put 32 = .ok (.getfield 32, 3) := by decide +kernel
theorem dX7_put_35 : decode cX7_put 35 = .ok (.iload 5, 2) := by decide +kernel
theorem dX7_put_37 : decode cX7_put 37 = .ok (.iaload, 1) := by decide +kernel
theorem dX7_put_38 : decode cX7_put 38 = .ok (.i2l, 1) := by decide +kernel
theorem dX7_put_39 : decode cX7_put 39 = .ok (.bipush 33, 2) := by decide +kernel
theorem dX7_put_41 : decode cX7_put 41 = .ok (.bipush 126, 2) := by decide +kernel
theorem dX7_put_43 : decode cX7_put 43 = .ok (.invokestatic 44, 3) := by decide +kernel
theorem dX7_put_46 : decode cX7_put 46 = .ok (.ifCond .ne 6, 3) := by decide +kernel
theorem dX7_put_49 : decode cX7_put 49 = .ok (.bipush (-2), 2) := by decide +kernel
theorem dX7_put_51 : decode cX7_put 51 = .ok (.ireturn, 1) := by decide +kernel
theorem dX7_put_52 : decode cX7_put 52 = .ok (.lload_n 3, 1) := by decide +kernel
theorem dX7_put_53 : decode cX7_put 53 = .ok (.bipush 8, 2) := by decide +kernel
theorem dX7_put_55 : decode cX7_put 55 = .ok (.lushr, 1) := by decide +kernel
theorem dX7_put_56 : decode cX7_put 56 = .ok (.lstore_n 3, 1) := by decide +kernel
theorem dX7_put_57 : decode cX7_put 57 = .ok (.iinc 5 1, 3) := by decide +kernel
theorem dX7_put_60 : decode cX7_put 60 = .ok (.goto (-55), 3) := by decide +kernel
theorem dX7_put_63 : decode cX7_put 63 = .ok (.iload 5, 2) := by decide +kernel
theorem dX7_put_65 : decode cX7_put 65 = .ok (.ifCond .ne 6, 3) := by decide +kernel
theorem dX7_put_68 : decode cX7_put 68 = .ok (.bipush (-2), 2) := by decide +kernel
theorem dX7_put_70 : decode cX7_put 70 = .ok (.ireturn, 1) := by decide +kernel
theorem dX7_put_71 : decode cX7_put 71 = .ok (.aload_n 0, 1) := by decide +kernel
theorem dX7_put_72 : decode cX7_put 72 = .ok (.getfield 148, 3) := by decide +kernel
theorem dX7_put_75 : decode cX7_put 75 = .ok (.iload 5, 2) := by decide +kernel
theorem dX7_put_77 : decode cX7_put 77 = .ok (.iadd, 1) := by decide +kernel
theorem dX7_put_78 : decode cX7_put 78 = .ok (.bipush 80, 2) := by decide +kernel
theorem dX7_put_80 : decode cX7_put 80 = .ok (.if_icmp .le 6, 3) := by decide +kernel
theorem dX7_put_83 : decode cX7_put 83 = .ok (.bipush (-4), 2) := by decide +kernel
theorem dX7_put_85 : decode cX7_put 85 = .ok (.ireturn, 1) := by decide +kernel
theorem dX7_put_86 : decode cX7_put 86 = .ok (.iload 5, 2) := by decide +kernel
theorem dX7_put_88 : decode cX7_put 88 = .ok (.iconst 1, 1) := by decide +kernel
theorem dX7_put_89 : decode cX7_put 89 = .ok (.isub, 1) := by decide +kernel
theorem dX7_put_90 : decode cX7_put 90 = .ok (.istore 6, 2) := by decide +kernel
theorem dX7_put_92 : decode cX7_put 92 = .ok (.iload 6, 2) := by decide +kernel
theorem dX7_put_94 : decode cX7_put 94 = .ok (.ifCond .lt 35, 3) := by decide +kernel
theorem dX7_put_97 : decode cX7_put 97 = .ok (.aload_n 0, 1) := by decide +kernel
theorem dX7_put_98 : decode cX7_put 98 = .ok (.getfield 29, 3) := by decide +kernel
theorem dX7_put_101 : decode cX7_put 101 = .ok (.aload_n 0, 1) := by decide +kernel
theorem dX7_put_102 : decode cX7_put 102 = .ok (.getfield 148, 3) := by decide +kernel
theorem dX7_put_105 : decode cX7_put 105 = .ok (.aload_n 0, 1) := by decide +kernel
theorem dX7_put_106 : decode cX7_put 106 = .ok (.getfield 32, 3) := by decide +kernel
theorem dX7_put_109 : decode cX7_put 109 = .ok (.iload 6, 2) := by decide +kernel
theorem dX7_put_111 : decode cX7_put 111 = .ok (.iaload, 1) := by decide +kernel
theorem dX7_put_112 : decode cX7_put 112 = .ok (.iastore, 1) := by decide +kernel
theorem dX7_put_113 : decode cX7_put 113 = .ok (.aload_n 0, 1) := by decide +kernel
theorem dX7_put_114 : decode cX7_put 114 = .ok (.dup, 1) := by decide +kernel
theorem dX7_put_115 : decode cX7_put 115 = .ok (.getfield 148, 3) := by decide +kernel
theorem dX7_put_118 : decode cX7_put 118 = .ok (.iconst 1, 1) := by decide +kernel
theorem dX7_put_119 : decode cX7_put 119 = .ok (.iadd, 1) := by decide +kernel
theorem dX7_put_120 : decode cX7_put 120 = .ok (.putfield 148, 3) := by decide +kernel
theorem dX7_put_123 : decode cX7_put 123 = .ok (.iinc 6 (-1), 3) := by decide +kernel
theorem dX7_put_126 : decode cX7_put 126 = .ok (.goto (-34), 3) := by decide +kernel
theorem dX7_put_129 : decode cX7_put 129 = .ok (.aload_n 0, 1) := by decide +kernel
theorem dX7_put_130 : decode cX7_put 130 = .ok (.getfield 148, 3) := by decide +kernel
theorem dX7_put_133 : decode cX7_put 133 = .ok (.ireturn, 1) := by decide +kernel
theorem dX7_wipe_0 : decode cX7_wipe 0 = .ok (.aload_n 0, 1) := by decide +kernel
theorem dX7_wipe_1 : decode cX7_wipe 1 = .ok (.getfield 148, 3) := by decide +kernel
theorem dX7_wipe_4 : decode cX7_wipe 4 = .ok (.istore_n 1, 1) := by decide +kernel
theorem dX7_wipe_5 : decode cX7_wipe 5 = .ok (.aload_n 0, 1) := by decide +kernel
theorem dX7_wipe_6 : decode cX7_wipe 6 = .ok (.iconst 0, 1) := by decide +kernel
theorem dX7_wipe_7 : decode cX7_wipe 7 = .ok (.putfield 148, 3) := by decide +kernel
theorem dX7_wipe_10 : decode cX7_wipe 10 = .ok (.iload_n 1, 1) := by decide +kernel
theorem dX7_wipe_11 : decode cX7_wipe 11 = .ok (.ireturn, 1) := by decide +kernel
theorem dX7_sees_0 : decode cX7_sees 0 = .ok (.aload_n 0, 1) := by decide +kernel
theorem dX7_sees_1 : decode cX7_sees 1 = .ok (.getfield 162, 3) := by decide +kernel
theorem dX7_sees_4 : decode cX7_sees 4 = .ok (.aload_n 0, 1) := by decide +kernel
theorem dX7_sees_5 : decode cX7_sees 5 = .ok (.getfield 148, 3) := by decide +kernel
theorem dX7_sees_8 : decode cX7_sees 8 = .ok (.if_icmp .ge 25, 3) := by decide +kernel
theorem dX7_sees_11 : decode cX7_sees 11 = .ok (.aload_n 0, 1) := by decide +kernel
theorem dX7_sees_12 : decode cX7_sees 12 = .ok (.getfield 29, 3) := by decide +kernel
theorem dX7_sees_15 : decode cX7_sees 15 = .ok (.aload_n 0, 1) := by decide +kernel
theorem dX7_sees_16 : decode cX7_sees 16 = .ok (.getfield 162, 3) := by decide +kernel
theorem dX7_sees_19 : decode cX7_sees 19 = .ok (.iaload, 1) := by decide +kernel
theorem dX7_sees_20 : decode cX7_sees 20 = .ok (.i2l, 1) := by decide +kernel
theorem dX7_sees_21 : decode cX7_sees 21 = .ok (.iload_n 1, 1) := by decide +kernel
theorem dX7_sees_22 : decode cX7_sees 22 = .ok (.iload_n 2, 1) := by decide +kernel
theorem dX7_sees_23 : decode cX7_sees 23 = .ok (.invokestatic 44, 3) := by decide +kernel
theorem dX7_sees_26 : decode cX7_sees 26 = .ok (.ifCond .eq 7, 3) := by decide +kernel
theorem dX7_sees_29 : decode cX7_sees 29 = .ok (.iconst 1, 1) := by decide +kernel
theorem dX7_sees_30 : decode cX7_sees 30 = .ok (.goto 4, 3) := by decide +kernel
theorem dX7_sees_33 : decode cX7_sees 33 = .ok (.iconst 0, 1) := by decide +kernel
theorem dX7_sees_34 : decode cX7_sees 34 = .ok (.ireturn, 1) := by decide +kernel
theorem dX7_takes_0 : decode cX7_takes 0 = .ok (.aload_n 0, 1) := by decide +kernel
theorem dX7_takes_1 : decode cX7_takes 1 = .ok (.iload_n 1, 1) := by decide +kernel
theorem dX7_takes_2 : decode cX7_takes 2 = .ok (.iload_n 1, 1) := by decide +kernel
theorem dX7_takes_3 : decode cX7_takes 3 = .ok (.invokevirtual 165, 3) := by decide +kernel
theorem dX7_takes_6 : decode cX7_takes 6 = .ok (.istore_n 2, 1) := by decide +kernel
theorem dX7_takes_7 : decode cX7_takes 7 = .ok (.aload_n 0, 1) := by decide +kernel
theorem dX7_takes_8 : decode cX7_takes 8 = .ok (.dup, 1) := by decide +kernel
theorem dX7_takes_9 : decode cX7_takes 9 = .ok (.getfield 162, 3) := by decide +kernel
theorem dX7_takes_12 : decode cX7_takes 12 = .ok (.iload_n 2, 1) := by decide +kernel
theorem dX7_takes_13 : decode cX7_takes 13 = .ok (.ifCond .eq 7, 3) := by decide +kernel
theorem dX7_takes_16 : decode cX7_takes 16 = .ok (.iconst 1, 1) := by decide +kernel
theorem dX7_takes_17 : decode cX7_takes 17 = .ok (.goto 4, 3) := by decide +kernel
theorem dX7_takes_20 : decode cX7_takes 20 = .ok (.iconst 0, 1) := by decide +kernel
theorem dX7_takes_21 : decode cX7_takes 21 = .ok (.iadd, 1) := by decide +kernel
theorem dX7_takes_22 : decode cX7_takes 22 = .ok (.putfield 162, 3) := by decide +kernel
theorem dX7_takes_25 : decode cX7_takes 25 = .ok (.iload_n 2, 1) := by decide +kernel
theorem dX7_takes_26 : decode cX7_takes 26 = .ok (.ireturn, 1) := by decide +kernel
theorem dX7_digit_0 : decode cX7_digit 0 = .ok (.aload_n 0, 1) := by decide +kernel
theorem dX7_digit_1 : decode cX7_digit 1 = .ok (.bipush 48, 2) := by decide +kernel
theorem dX7_digit_3 : decode cX7_digit 3 = .ok (.bipush 57, 2) := by decide +kernel
theorem dX7_digit_5 : decode cX7_digit 5 = .ok (.invokevirtual 165, 3) := by decide +kernel
theorem dX7_digit_8 : decode cX7_digit 8 = .ok (.ifCond .ne 5, 3) := by decide +kernel
theorem dX7_digit_11 : decode cX7_digit 11 = .ok (.iconst 0, 1) := by decide +kernel
theorem dX7_digit_12 : decode cX7_digit 12 = .ok (.ireturn, 1) := by decide +kernel
theorem dX7_digit_13 : decode cX7_digit 13 = .ok (.aload_n 0, 1) := by decide +kernel
theorem dX7_digit_14 : decode cX7_digit 14 = .ok (.getfield 35, 3) := by decide +kernel
theorem dX7_digit_17 : decode cX7_digit 17 = .ok (.iload_n 1, 1) := by decide +kernel
theorem dX7_digit_18 : decode cX7_digit 18 = .ok (.aload_n 0, 1) := by decide +kernel
theorem dX7_digit_19 : decode cX7_digit 19 = .ok (.getfield 29, 3) := by decide +kernel
theorem dX7_digit_22 : decode cX7_digit 22 = .ok (.aload_n 0, 1) := by decide +kernel
theorem dX7_digit_23 : decode cX7_digit 23 = .ok (.getfield 162, 3) := by decide +kernel
theorem dX7_digit_26 : decode cX7_digit 26 = .ok (.iaload, 1) := by decide +kernel
theorem dX7_digit_27 : decode cX7_digit 27 = .ok (.bipush 48, 2) := by decide +kernel
theorem dX7_digit_29 : decode cX7_digit 29 = .ok (.isub, 1) := by decide +kernel
theorem dX7_digit_30 : decode cX7_digit 30 = .ok (.iastore, 1) := by decide +kernel
theorem dX7_digit_31 : decode cX7_digit 31 = .ok (.aload_n 0, 1) := by decide +kernel
theorem dX7_digit_32 : decode cX7_digit 32 = .ok (.dup, 1) := by decide +kernel
theorem dX7_digit_33 : decode cX7_digit 33 = .ok (.getfield 162, 3) := by decide +kernel
theorem dX7_digit_36 : decode cX7_digit 36 = .ok (.iconst 1, 1) := by decide +kernel
theorem dX7_digit_37 : decode cX7_digit 37 = .ok (.iadd, 1) := by decide +kernel
theorem dX7_digit_38 : decode cX7_digit 38 = .ok (.putfield 162, 3) := by decide +kernel
theorem dX7_digit_41 : decode cX7_digit 41 = .ok (.iconst 1, 1) := by decide +kernel
theorem dX7_digit_42 : decode cX7_digit 42 = .ok (.ireturn, 1) := by decide +kernel
theorem dX7_number_0 : decode cX7_number 0 = .ok (.aload_n 0, 1) := by decide +kernel
theorem dX7_number_1 : decode cX7_number 1 = .ok (.iload_n 1, 1) := by decide +kernel
theorem dX7_number_2 : decode cX7_number 2 = .ok (.invokevirtual 169, 3) := by decide +kernel
theorem dX7_number_5 : decode cX7_number 5 = .ok (.ifCond .ne 5, 3) := by decide +kernel
theorem dX7_number_8 : decode cX7_number 8 = .ok (.iconst 0, 1) := by decide +kernel
theorem dX7_number_9 : decode cX7_number 9 = .ok (.ireturn, 1) := by decide +kernel
theorem dX7_number_10 : decode cX7_number 10 = .ok (.aload_n 0, 1) := by decide +kernel
theorem dX7_number_11 : decode cX7_number 11 = .ok (.getfield 35, 3) := by decide +kernel
theorem dX7_number_14 : decode cX7_number 14 = .ok (.iload_n 1, 1) := by decide +kernel
theorem dX7_number_15 : decode cX7_number 15 = .ok (.iaload, 1) := by decide +kernel
theorem dX7_number_16 : decode cX7_number 16 = .ok (.ifCond .le 82, 3) := by decide +kernel
theorem dX7_number_19 : decode cX7_number 19 = .ok (.aload_n 0, 1) := by decide +kernel
theorem dX7_number_20 : decode cX7_number 20 = .ok (.bipush 48, 2) := by decide +kernel
theorem dX7_number_22 : decode cX7_number 22 = .ok (.bipush 57, 2) := by decide +kernel
theorem dX7_number_24 : decode cX7_number 24 = .ok (.invokevirtual 165, 3) := by decide +kernel
theorem dX7_number_27 : decode cX7_number 27 = .ok (.ifCond .eq 71, 3) := by decide +kernel
theorem dX7_number_30 : decode cX7_number 30 = .ok (.bipush 10, 2) := by decide +kernel
theorem dX7_number_32 : decode cX7_number 32 = .ok (.aload_n 0, 1) := by decide +kernel
theorem dX7_number_33 : decode cX7_number 33 = .ok (.getfield 35, 3) := by decide +kernel
theorem dX7_number_36 : decode cX7_number 36 = .ok (.iload_n 1, 1) := by decide +kernel
theorem dX7_number_37 : decode cX7_number 37 = .ok (.iaload, 1) := by decide +kernel
theorem dX7_number_38 : decode cX7_number 38 = .ok (.imul, 1) := by decide +kernel
theorem dX7_number_39 : decode cX7_number 39 = .ok (.aload_n 0, 1) := by decide +kernel
theorem dX7_number_40 : decode cX7_number 40 = .ok (.getfield 29, 3) := by decide +kernel
theorem dX7_number_43 : decode cX7_number 43 = .ok (.aload_n 0, 1) := by decide +kernel
theorem dX7_number_44 : decode cX7_number 44 = .ok (.getfield 162, 3) := by decide +kernel
theorem dX7_number_47 : decode cX7_number 47 = .ok (.iaload, 1) := by decide +kernel
theorem dX7_number_48 : decode cX7_number 48 = .ok (.iadd, 1) := by decide +kernel
theorem dX7_number_49 : decode cX7_number 49 = .ok (.bipush 48, 2) := by decide +kernel
theorem dX7_number_51 : decode cX7_number 51 = .ok (.isub, 1) := by decide +kernel
theorem dX7_number_52 : decode cX7_number 52 = .ok (.ldc 117, 2) := by decide +kernel
theorem dX7_number_54 : decode cX7_number 54 = .ok (.if_icmp .gt 44, 3) := by decide +kernel
theorem dX7_number_57 : decode cX7_number 57 = .ok (.aload_n 0, 1) := by decide +kernel
theorem dX7_number_58 : decode cX7_number 58 = .ok (.getfield 35, 3) := by decide +kernel
theorem dX7_number_61 : decode cX7_number 61 = .ok (.iload_n 1, 1) := by decide +kernel
theorem dX7_number_62 : decode cX7_number 62 = .ok (.bipush 10, 2) := by decide +kernel
theorem dX7_number_64 : decode cX7_number 64 = .ok (.aload_n 0, 1) := by decide +kernel
theorem dX7_number_65 : decode cX7_number 65 = .ok (.getfield 35, 3) := by decide +kernel
theorem dX7_number_68 : decode cX7_number 68 = .ok (.iload_n 1, 1) := by decide +kernel
theorem dX7_number_69 : decode cX7_number 69 = .ok (.iaload, 1) := by decide +kernel
theorem dX7_number_70 : decode cX7_number 70 = .ok (.imul, 1) := by decide +kernel
theorem dX7_number_71 : decode cX7_number 71 = .ok (.aload_n 0, 1) := by decide +kernel
theorem dX7_number_72 : decode cX7_number 72 = .ok (.getfield 29, 3) := by decide +kernel
theorem dX7_number_75 : decode cX7_number 75 = .ok (.aload_n 0, 1) := by decide +kernel
theorem dX7_number_76 : decode cX7_number 76 = .ok (.getfield 162, 3) := by decide +kernel
theorem dX7_number_79 : decode cX7_number 79 = .ok (.iaload, 1) := by decide +kernel
theorem dX7_number_80 : decode cX7_number 80 = .ok (.iadd, 1) := by decide +kernel
theorem dX7_number_81 : decode cX7_number 81 = .ok (.bipush 48, 2) := by decide +kernel
theorem dX7_number_83 : decode cX7_number 83 = .ok (.isub, 1) := by decide +kernel
theorem dX7_number_84 : decode cX7_number 84 = .ok (.iastore, 1) := by decide +kernel
theorem dX7_number_85 : decode cX7_number 85 = .ok (.aload_n 0, 1) := by decide +kernel
theorem dX7_number_86 : decode cX7_number 86 = .ok (.dup, 1) := by decide +kernel
theorem dX7_number_87 : decode cX7_number 87 = .ok (.getfield 162, 3) := by decide +kernel
theorem dX7_number_90 : decode cX7_number 90 = .ok (.iconst 1, 1) := by decide +kernel
theorem dX7_number_91 : decode cX7_number 91 = .ok (.iadd, 1) := by decide +kernel
theorem dX7_number_92 : decode cX7_number 92 = .ok (.putfield 162, 3) := by decide +kernel
theorem dX7_number_95 : decode cX7_number 95 = .ok (.goto (-85), 3) := by decide +kernel
theorem dX7_number_98 : decode cX7_number 98 = .ok (.iconst 1, 1) := by decide +kernel
theorem dX7_number_99 : decode cX7_number 99 = .ok (.ireturn, 1) := by decide +kernel
theorem dX7_reads_0 : decode cX7_reads 0 = .ok (.aload_n 0, 1) := by decide +kernel
theorem dX7_reads_1 : decode cX7_reads 1 = .ok (.getfield 35, 3) := by decide +kernel
theorem dX7_reads_4 : decode cX7_reads 4 = .ok (.iconst 2, 1) := by decide +kernel
theorem dX7_reads_5 : decode cX7_reads 5 = .ok (.iconst 1, 1) := by decide +kernel
theorem dX7_reads_6 : decode cX7_reads 6 = .ok (.iastore, 1) := by decide +kernel
theorem dX7_reads_7 : decode cX7_reads 7 = .ok (.iload_n 1, 1) := by decide +kernel
theorem dX7_reads_8 : decode cX7_reads 8 = .ok (.lookupswitch 50 #[(99, 38), (115, 44), (117, 36)], 36) := by decide +kernel
theorem dX7_reads_44 : decode cX7_reads 44 = .ok (.iconst 1, 1) := by decide +kernel
theorem dX7_reads_45 : decode cX7_reads 45 = .ok (.ireturn, 1) := by decide +kernel
theorem dX7_reads_46 : decode cX7_reads 46 = .ok (.aload_n 0, 1) := by decide +kernel
theorem dX7_reads_47 : decode cX7_reads 47 = .ok (.iconst 0, 1) := by decide +kernel
theorem dX7_reads_48 : decode cX7_reads 48 = .ok (.invokevirtual 172, 3) := by decide +kernel
theorem dX7_reads_51 : decode cX7_reads 51 = .ok (.ireturn, 1) := by decide +kernel
theorem dX7_reads_52 : decode cX7_reads 52 = .ok (.aload_n 0, 1) := by decide +kernel
theorem dX7_reads_53 : decode cX7_reads 53 = .ok (.iconst 0, 1) := by decide +kernel
theorem dX7_reads_54 : decode cX7_reads 54 = .ok (.invokevirtual 169, 3) := by decide +kernel
theorem dX7_reads_57 : decode cX7_reads 57 = .ok (.ireturn, 1) := by decide +kernel
theorem dX7_reads_58 : decode cX7_reads 58 = .ok (.aload_n 0, 1) := by decide +kernel
theorem dX7_reads_59 : decode cX7_reads 59 = .ok (.iconst 0, 1) := by decide +kernel
theorem dX7_reads_60 : decode cX7_reads 60 = .ok (.invokevirtual 169, 3) := by decide +kernel
theorem dX7_reads_63 : decode cX7_reads 63 = .ok (.ifCond .eq 41, 3) := by decide +kernel
theorem dX7_reads_66 : decode cX7_reads 66 = .ok (.aload_n 0, 1) := by decide +kernel
theorem dX7_reads_67 : decode cX7_reads 67 = .ok (.bipush 46, 2) := by decide +kernel
theorem dX7_reads_69 : decode cX7_reads 69 = .ok (.invokevirtual 174, 3) := by decide +kernel
theorem dX7_reads_72 : decode cX7_reads 72 = .ok (.ifCond .eq 32, 3) := by decide +kernel
theorem dX7_reads_75 : decode cX7_reads 75 = .ok (.aload_n 0, 1) := by decide +kernel
theorem dX7_reads_76 : decode cX7_reads 76 = .ok (.iconst 1, 1) := by decide +kernel
theorem dX7_reads_77 : decode cX7_reads 77 = .ok (.invokevirtual 172, 3) := by decide +kernel
theorem dX7_reads_80 : decode cX7_reads 80 = .ok (.ifCond .eq 24, 3) := by decide +kernel
theorem dX7_reads_83 : decode cX7_reads 83 = .ok (.aload_n 0, 1) := by decide +kernel
theorem dX7_reads_84 : decode cX7_reads 84 = .ok (.bipush 42, 2) := by decide +kernel
