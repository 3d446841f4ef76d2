theorem dX5_init_45 : decode cX5_init 45 = .ok (.iinc 1 1, 3) := by decide +kernel
theorem dX5_init_48 : decode cX5_init 48 = .ok (.goto (-21), 3) := by decide +kernel
theorem dX5_init_51 : decode cX5_init 51 = .ok (.return_, 1) := by decide +kernel
theorem dX5_cupAt_0 : decode cX5_cupAt 0 = .ok (.iload_n 1, 1) := by decide +kernel
theorem dX5_cupAt_1 : decode cX5_cupAt 1 = .ok (.ifCond .lt 25, 3) := by decide +kernel
theorem dX5_cupAt_4 : decode cX5_cupAt 4 = .ok (.iload_n 1, 1) := by decide +kernel
theorem dX5_cupAt_5 : decode cX5_cupAt 5 = .ok (.aload_n 0, 1) := by decide +kernel
theorem dX5_cupAt_6 : decode cX5_cupAt 6 = .ok (.getfield 26, 3) := by decide +kernel
theorem dX5_cupAt_9 : decode cX5_cupAt 9 = .ok (.if_icmp .ge 17, 3) := by decide +kernel
theorem dX5_cupAt_12 : decode cX5_cupAt 12 = .ok (.iload_n 1, 1) := by decide +kernel
theorem dX5_cupAt_13 : decode cX5_cupAt 13 = .ok (.iconst 3, 1) := by decide +kernel
theorem dX5_cupAt_14 : decode cX5_cupAt 14 = .ok (.if_icmp .ge 12, 3) := by decide +kernel
theorem dX5_cupAt_17 : decode cX5_cupAt 17 = .ok (.aload_n 0, 1) := by decide +kernel
theorem dX5_cupAt_18 : decode cX5_cupAt 18 = .ok (.getfield 21, 3) := by decide +kernel
theorem dX5_cupAt_21 : decode cX5_cupAt 21 = .ok (.iload_n 1, 1) := by decide +kernel
theorem dX5_cupAt_22 : decode cX5_cupAt 22 = .ok (.aaload, 1) := by decide +kernel
theorem dX5_cupAt_23 : decode cX5_cupAt 23 = .ok (.goto 4, 3) := by decide +kernel
theorem dX5_cupAt_26 : decode cX5_cupAt 26 = .ok (.aconst_null, 1) := by decide +kernel
theorem dX5_cupAt_27 : decode cX5_cupAt 27 = .ok (.areturn, 1) := by decide +kernel
theorem dX5_allChapters_0 : decode cX5_allChapters 0 = .ok (.iconst 1, 1) := by decide +kernel
theorem dX5_allChapters_1 : decode cX5_allChapters 1 = .ok (.aload_n 0, 1) := by decide +kernel
theorem dX5_allChapters_2 : decode cX5_allChapters 2 = .ok (.getfield 29, 3) := by decide +kernel
theorem dX5_allChapters_5 : decode cX5_allChapters 5 = .ok (.ishl, 1) := by decide +kernel
theorem dX5_allChapters_6 : decode cX5_allChapters 6 = .ok (.iconst 1, 1) := by decide +kernel
theorem dX5_allChapters_7 : decode cX5_allChapters 7 = .ok (.isub, 1) := by decide +kernel
theorem dX5_allChapters_8 : decode cX5_allChapters 8 = .ok (.ireturn, 1) := by decide +kernel
theorem dX5_copyFrom_0 : decode cX5_copyFrom 0 = .ok (.aload_n 0, 1) := by decide +kernel
theorem dX5_copyFrom_1 : decode cX5_copyFrom 1 = .ok (.aload_n 1, 1) := by decide +kernel
theorem dX5_copyFrom_2 : decode cX5_copyFrom 2 = .ok (.getfield 9, 3) := by decide +kernel
theorem dX5_copyFrom_5 : decode cX5_copyFrom 5 = .ok (.putfield 9, 3) := by decide +kernel
theorem dX5_copyFrom_8 : decode cX5_copyFrom 8 = .ok (.aload_n 0, 1) := by decide +kernel
theorem dX5_copyFrom_9 : decode cX5_copyFrom 9 = .ok (.aload_n 1, 1) := by decide +kernel
theorem dX5_copyFrom_10 : decode cX5_copyFrom 10 = .ok (.getfield 32, 3) := by decide +kernel
theorem dX5_copyFrom_13 : decode cX5_copyFrom 13 = .ok (.putfield 32, 3) := by decide +kernel
theorem dX5_copyFrom_16 : decode cX5_copyFrom 16 = .ok (.aload_n 0, 1) := by decide +kernel
theorem dX5_copyFrom_17 : decode cX5_copyFrom 17 = .ok (.aload_n 1, 1) := by decide +kernel
theorem dX5_copyFrom_18 : decode cX5_copyFrom 18 = .ok (.getfield 29, 3) := by decide +kernel
theorem dX5_copyFrom_21 : decode cX5_copyFrom 21 = .ok (.putfield 29, 3) := by decide +kernel
theorem dX5_copyFrom_24 : decode cX5_copyFrom 24 = .ok (.aload_n 0, 1) := by decide +kernel
theorem dX5_copyFrom_25 : decode cX5_copyFrom 25 = .ok (.aload_n 1, 1) := by decide +kernel
theorem dX5_copyFrom_26 : decode cX5_copyFrom 26 = .ok (.getfield 26, 3) := by decide +kernel
theorem dX5_copyFrom_29 : decode cX5_copyFrom 29 = .ok (.putfield 26, 3) := by decide +kernel
theorem dX5_copyFrom_32 : decode cX5_copyFrom 32 = .ok (.aload_n 0, 1) := by decide +kernel
theorem dX5_copyFrom_33 : decode cX5_copyFrom 33 = .ok (.aload_n 1, 1) := by decide +kernel
theorem dX5_copyFrom_34 : decode cX5_copyFrom 34 = .ok (.getfield 35, 3) := by decide +kernel
theorem dX5_copyFrom_37 : decode cX5_copyFrom 37 = .ok (.putfield 35, 3) := by decide +kernel
theorem dX5_copyFrom_40 : decode cX5_copyFrom 40 = .ok (.aload_n 1, 1) := by decide +kernel
theorem dX5_copyFrom_41 : decode cX5_copyFrom 41 = .ok (.getfield 15, 3) := by decide +kernel
theorem dX5_copyFrom_44 : decode cX5_copyFrom 44 = .ok (.iconst 0, 1) := by decide +kernel
theorem dX5_copyFrom_45 : decode cX5_copyFrom 45 = .ok (.aload_n 0, 1) := by decide +kernel
theorem dX5_copyFrom_46 : decode cX5_copyFrom 46 = .ok (.getfield 15, 3) := by decide +kernel
theorem dX5_copyFrom_49 : decode cX5_copyFrom 49 = .ok (.iconst 0, 1) := by decide +kernel
theorem dX5_copyFrom_50 : decode cX5_copyFrom 50 = .ok (.bipush 16, 2) := by decide +kernel
theorem dX5_copyFrom_52 : decode cX5_copyFrom 52 = .ok (.invokestatic 38, 3) := by decide +kernel
theorem dX5_copyFrom_55 : decode cX5_copyFrom 55 = .ok (.iconst 0, 1) := by decide +kernel
theorem dX5_copyFrom_56 : decode cX5_copyFrom 56 = .ok (.istore_n 2, 1) := by decide +kernel
theorem dX5_copyFrom_57 : decode cX5_copyFrom 57 = .ok (.iload_n 2, 1) := by decide +kernel
theorem dX5_copyFrom_58 : decode cX5_copyFrom 58 = .ok (.iconst 3, 1) := by decide +kernel
theorem dX5_copyFrom_59 : decode cX5_copyFrom 59 = .ok (.if_icmp .ge 39, 3) := by decide +kernel
theorem dX5_copyFrom_62 : decode cX5_copyFrom 62 = .ok (.aload_n 0, 1) := by decide +kernel
theorem dX5_copyFrom_63 : decode cX5_copyFrom 63 = .ok (.getfield 21, 3) := by decide +kernel
theorem dX5_copyFrom_66 : decode cX5_copyFrom 66 = .ok (.iload_n 2, 1) := by decide +kernel
theorem dX5_copyFrom_67 : decode cX5_copyFrom 67 = .ok (.aaload, 1) := by decide +kernel
theorem dX5_copyFrom_68 : decode cX5_copyFrom 68 = .ok (.astore_n 3, 1) := by decide +kernel
theorem dX5_copyFrom_69 : decode cX5_copyFrom 69 = .ok (.aload_n 1, 1) := by decide +kernel
theorem dX5_copyFrom_70 : decode cX5_copyFrom 70 = .ok (.getfield 21, 3) := by decide +kernel
theorem dX5_copyFrom_73 : decode cX5_copyFrom 73 = .ok (.iload_n 2, 1) := by decide +kernel
theorem dX5_copyFrom_74 : decode cX5_copyFrom 74 = .ok (.aaload, 1) := by decide +kernel
theorem dX5_copyFrom_75 : decode cX5_copyFrom 75 = .ok (.astore 4, 2) := by decide +kernel
theorem dX5_copyFrom_77 : decode cX5_copyFrom 77 = .ok (.aload_n 3, 1) := by decide +kernel
theorem dX5_copyFrom_78 : decode cX5_copyFrom 78 = .ok (.ifnull 14, 3) := by decide +kernel
theorem dX5_copyFrom_81 : decode cX5_copyFrom 81 = .ok (.aload 4, 2) := by decide +kernel
theorem dX5_copyFrom_83 : decode cX5_copyFrom 83 = .ok (.ifnull 9, 3) := by decide +kernel
theorem dX5_copyFrom_86 : decode cX5_copyFrom 86 = .ok (.aload_n 3, 1) := by decide +kernel
theorem dX5_copyFrom_87 : decode cX5_copyFrom 87 = .ok (.aload 4, 2) := by decide +kernel
theorem dX5_copyFrom_89 : decode cX5_copyFrom 89 = .ok (.invokevirtual 44, 3) := by decide +kernel
theorem dX5_copyFrom_92 : decode cX5_copyFrom 92 = .ok (.iinc 2 1, 3) := by decide +kernel
theorem dX5_copyFrom_95 : decode cX5_copyFrom 95 = .ok (.goto (-38), 3) := by decide +kernel
theorem dX5_copyFrom_98 : decode cX5_copyFrom 98 = .ok (.return_, 1) := by decide +kernel
theorem dX6_init_0 : decode cX6_init 0 = .ok (.aload_n 0, 1) := by decide +kernel
theorem dX6_init_1 : decode cX6_init 1 = .ok (.invokespecial 1, 3) := by decide +kernel
theorem dX6_init_4 : decode cX6_init 4 = .ok (.aload_n 0, 1) := by decide +kernel
theorem dX6_init_5 : decode cX6_init 5 = .ok (.new 7, 3) := by decide +kernel
theorem dX6_init_8 : decode cX6_init 8 = .ok (.dup, 1) := by decide +kernel
theorem dX6_init_9 : decode cX6_init 9 = .ok (.invokespecial 9, 3) := by decide +kernel
theorem dX6_init_12 : decode cX6_init 12 = .ok (.putfield 10, 3) := by decide +kernel
theorem dX6_init_15 : decode cX6_init 15 = .ok (.aload_n 0, 1) := by decide +kernel
theorem dX6_init_16 : decode cX6_init 16 = .ok (.new 16, 3) := by decide +kernel
theorem dX6_init_19 : decode cX6_init 19 = .ok (.dup, 1) := by decide +kernel
theorem dX6_init_20 : decode cX6_init 20 = .ok (.invokespecial 18, 3) := by decide +kernel
theorem dX6_init_23 : decode cX6_init 23 = .ok (.putfield 19, 3) := by decide +kernel
theorem dX6_init_26 : decode cX6_init 26 = .ok (.aload_n 0, 1) := by decide +kernel
theorem dX6_init_27 : decode cX6_init 27 = .ok (.iconst 2, 1) := by decide +kernel
theorem dX6_init_28 : decode cX6_init 28 = .ok (.anewarray 7, 3) := by decide +kernel
theorem dX6_init_31 : decode cX6_init 31 = .ok (.putfield 23, 3) := by decide +kernel
theorem dX6_init_34 : decode cX6_init 34 = .ok (.aload_n 0, 1) := by decide +kernel
theorem dX6_init_35 : decode cX6_init 35 = .ok (.new 27, 3) := by decide +kernel
theorem dX6_init_38 : decode cX6_init 38 = .ok (.dup, 1) := by decide +kernel
theorem dX6_init_39 : decode cX6_init 39 = .ok (.invokespecial 29, 3) := by decide +kernel
theorem dX6_init_42 : decode cX6_init 42 = .ok (.putfield 30, 3) := by decide +kernel
theorem dX6_init_45 : decode cX6_init 45 = .ok (.aload_n 0, 1) := by decide +kernel
theorem dX6_init_46 : decode cX6_init 46 = .ok (.new 34, 3) := by decide +kernel
theorem dX6_init_49 : decode cX6_init 49 = .ok (.dup, 1) := by decide +kernel
theorem dX6_init_50 : decode cX6_init 50 = .ok (.invokespecial 36, 3) := by decide +kernel
theorem dX6_init_53 : decode cX6_init 53 = .ok (.putfield 37, 3) := by decide +kernel
theorem dX6_init_56 : decode cX6_init 56 = .ok (.aload_n 0, 1) := by decide +kernel
theorem dX6_init_57 : decode cX6_init 57 = .ok (.new 41, 3) := by decide +kernel
theorem dX6_init_60 : decode cX6_init 60 = .ok (.dup, 1) := by decide +kernel
theorem dX6_init_61 : decode cX6_init 61 = .ok (.invokespecial 43, 3) := by decide +kernel
theorem dX6_init_64 : decode cX6_init 64 = .ok (.putfield 44, 3) := by decide +kernel
theorem dX6_init_67 : decode cX6_init 67 = .ok (.aload_n 0, 1) := by decide +kernel
theorem dX6_init_68 : decode cX6_init 68 = .ok (.new 48, 3) := by decide +kernel
theorem dX6_init_71 : decode cX6_init 71 = .ok (.dup, 1) := by decide +kernel
theorem dX6_init_72 : decode cX6_init 72 = .ok (.invokespecial 50, 3) := by decide +kernel
theorem dX6_init_75 : decode cX6_init 75 = .ok (.putfield 51, 3) := by decide +kernel
theorem dX6_init_78 : decode cX6_init 78 = .ok (.return_, 1) := by decide +kernel
theorem dX6_set_0 : decode cX6_set 0 = .ok (.aload_n 0, 1) := by decide +kernel
theorem dX6_set_1 : decode cX6_set 1 = .ok (.getfield 19, 3) := by decide +kernel
theorem dX6_set_4 : decode cX6_set 4 = .ok (.aload_n 0, 1) := by decide +kernel
theorem dX6_set_5 : decode cX6_set 5 = .ok (.getfield 10, 3) := by decide +kernel
theorem dX6_set_8 : decode cX6_set 8 = .ok (.invokevirtual 55, 3) := by decide +kernel
theorem dX6_set_11 : decode cX6_set 11 = .ok (.aload_n 0, 1) := by decide +kernel
theorem dX6_set_12 : decode cX6_set 12 = .ok (.getfield 19, 3) := by decide +kernel
theorem dX6_set_15 : decode cX6_set 15 = .ok (.aload_n 0, 1) := by decide +kernel
theorem dX6_set_16 : decode cX6_set 16 = .ok (.iload_n 1, 1) := by decide +kernel
theorem dX6_set_17 : decode cX6_set 17 = .ok (.iload_n 2, 1) := by decide +kernel
theorem dX6_set_18 : decode cX6_set 18 = .ok (.invokevirtual 59, 3) := by decide +kernel
theorem dX6_set_21 : decode cX6_set 21 = .ok (.invokevirtual 63, 3) := by decide +kernel
theorem dX6_set_24 : decode cX6_set 24 = .ok (.ireturn, 1) := by decide +kernel
theorem dX6_chapter_0 : decode cX6_chapter 0 = .ok (.aload_n 0, 1) := by decide +kernel
theorem dX6_chapter_1 : decode cX6_chapter 1 = .ok (.getfield 19, 3) := by decide +kernel
theorem dX6_chapter_4 : decode cX6_chapter 4 = .ok (.aload_n 0, 1) := by decide +kernel
theorem dX6_chapter_5 : decode cX6_chapter 5 = .ok (.getfield 10, 3) := by decide +kernel
theorem dX6_chapter_8 : decode cX6_chapter 8 = .ok (.invokevirtual 55, 3) := by decide +kernel
theorem dX6_chapter_11 : decode cX6_chapter 11 = .ok (.aload_n 0, 1) := by decide +kernel
theorem dX6_chapter_12 : decode cX6_chapter 12 = .ok (.getfield 19, 3) := by decide +kernel
theorem dX6_chapter_15 : decode cX6_chapter 15 = .ok (.aload_n 0, 1) := by decide +kernel
theorem dX6_chapter_16 : decode cX6_chapter 16 = .ok (.iload_n 1, 1) := by decide +kernel
theorem dX6_chapter_17 : decode cX6_chapter 17 = .ok (.invokevirtual 67, 3) := by decide +kernel
theorem dX6_chapter_20 : decode cX6_chapter 20 = .ok (.invokevirtual 63, 3) := by decide +kernel
theorem dX6_chapter_23 : decode cX6_chapter 23 = .ok (.ireturn, 1) := by decide +kernel
theorem dX6_cup_0 : decode cX6_cup 0 = .ok (.aload_n 0, 1) := by decide +kernel
theorem dX6_cup_1 : decode cX6_cup 1 = .ok (.getfield 19, 3) := by decide +kernel
theorem dX6_cup_4 : decode cX6_cup 4 = .ok (.aload_n 0, 1) := by decide +kernel
theorem dX6_cup_5 : decode cX6_cup 5 = .ok (.getfield 10, 3) := by decide +kernel
theorem dX6_cup_8 : decode cX6_cup 8 = .ok (.invokevirtual 55, 3) := by decide +kernel
theorem dX6_cup_11 : decode cX6_cup 11 = .ok (.aload_n 0, 1) := by decide +kernel
theorem dX6_cup_12 : decode cX6_cup 12 = .ok (.getfield 19, 3) := by decide +kernel
theorem dX6_cup_15 : decode cX6_cup 15 = .ok (.aload_n 0, 1) := by decide +kernel
theorem dX6_cup_16 : decode cX6_cup 16 = .ok (.invokevirtual 70, 3) := by decide +kernel
theorem dX6_cup_19 : decode cX6_cup 19 = .ok (.invokevirtual 63, 3) := by decide +kernel
theorem dX6_cup_22 : decode cX6_cup 22 = .ok (.ireturn, 1) := by decide +kernel
theorem dX6_empty_0 : decode cX6_empty 0 = .ok (.aload_n 0, 1) := by decide +kernel
theorem dX6_empty_1 : decode cX6_empty 1 = .ok (.getfield 19, 3) := by decide +kernel
theorem dX6_empty_4 : decode cX6_empty 4 = .ok (.aload_n 0, 1) := by decide +kernel
theorem dX6_empty_5 : decode cX6_empty 5 = .ok (.getfield 10, 3) := by decide +kernel
theorem dX6_empty_8 : decode cX6_empty 8 = .ok (.invokevirtual 55, 3) := by decide +kernel
theorem dX6_empty_11 : decode cX6_empty 11 = .ok (.aload_n 0, 1) := by decide +kernel
theorem dX6_empty_12 : decode cX6_empty 12 = .ok (.getfield 19, 3) := by decide +kernel
theorem dX6_empty_15 : decode cX6_empty 15 = .ok (.aload_n 0, 1) := by decide +kernel
theorem dX6_empty_16 : decode cX6_empty 16 = .ok (.iload_n 1, 1) := by decide +kernel
theorem dX6_empty_17 : decode cX6_empty 17 = .ok (.invokevirtual 74, 3) := by decide +kernel
theorem dX6_empty_20 : decode cX6_empty 20 = .ok (.invokevirtual 63, 3) := by decide +kernel
theorem dX6_empty_23 : decode cX6_empty 23 = .ok (.ireturn, 1) := by decide +kernel
theorem dX6_pour_0 : decode cX6_pour 0 = .ok (.aload_n 0, 1) := by decide +kernel
theorem dX6_pour_1 : decode cX6_pour 1 = .ok (.getfield 19, 3) := by decide +kernel
theorem dX6_pour_4 : decode cX6_pour 4 = .ok (.aload_n 0, 1) := by decide +kernel
theorem dX6_pour_5 : decode cX6_pour 5 = .ok (.getfield 10, 3) := by decide +kernel
theorem dX6_pour_8 : decode cX6_pour 8 = .ok (.invokevirtual 55, 3) := by decide +kernel
theorem dX6_pour_11 : decode cX6_pour 11 = .ok (.aload_n 0, 1) := by decide +kernel
theorem dX6_pour_12 : decode cX6_pour 12 = .ok (.getfield 19, 3) := by decide +kernel
theorem dX6_pour_15 : decode cX6_pour 15 = .ok (.aload_n 0, 1) := by decide +kernel
theorem dX6_pour_16 : decode cX6_pour 16 = .ok (.iload_n 1, 1) := by decide +kernel
theorem dX6_pour_17 : decode cX6_pour 17 = .ok (.iload_n 2, 1) := by decide +kernel
theorem dX6_pour_18 : decode cX6_pour 18 = .ok (.iload_n 3, 1) := by decide +kernel
theorem dX6_pour_19 : decode cX6_pour 19 = .ok (.invokevirtual 77, 3) := by decide +kernel
theorem dX6_pour_22 : decode cX6_pour 22 = .ok (.invokevirtual 63, 3) := by decide +kernel
theorem dX6_pour_25 : decode cX6_pour 25 = .ok (.ireturn, 1) := by decide +kernel
theorem dX6_solve_0 : decode cX6_solve 0 = .ok (.aload_n 0, 1) := by decide +kernel
theorem dX6_solve_1 : decode cX6_solve 1 = .ok (.getfield 19, 3) := by decide +kernel
theorem dX6_solve_4 : decode cX6_solve 4 = .ok (.aload_n 0, 1) := by decide +kernel
theorem dX6_solve_5 : decode cX6_solve 5 = .ok (.getfield 10, 3) := by decide +kernel
theorem dX6_solve_8 : decode cX6_solve 8 = .ok (.invokevirtual 55, 3) := by decide +kernel
theorem dX6_solve_11 : decode cX6_solve 11 = .ok (.aload_n 0, 1) := by decide +kernel
theorem dX6_solve_12 : decode cX6_solve 12 = .ok (.getfield 19, 3) := by decide +kernel
theorem dX6_solve_15 : decode cX6_solve 15 = .ok (.aload_n 0, 1) := by decide +kernel
theorem dX6_solve_16 : decode cX6_solve 16 = .ok (.iload_n 1, 1) := by decide +kernel
theorem dX6_solve_17 : decode cX6_solve 17 = .ok (.invokevirtual 81, 3) := by decide +kernel
theorem dX6_solve_20 : decode cX6_solve 20 = .ok (.invokevirtual 63, 3) := by decide +kernel
theorem dX6_solve_23 : decode cX6_solve 23 = .ok (.ireturn, 1) := by decide +kernel
theorem dX6_droplet_0 : decode cX6_droplet 0 = .ok (.iload_n 1, 1) := by decide +kernel
theorem dX6_droplet_1 : decode cX6_droplet 1 = .ok (.iconst 0, 1) := by decide +kernel
theorem dX6_droplet_2 : decode cX6_droplet 2 = .ok (.ldc 84, 2) := by decide +kernel
theorem dX6_droplet_4 : decode cX6_droplet 4 = .ok (.invokestatic 85, 3) := by decide +kernel
theorem dX6_droplet_7 : decode cX6_droplet 7 = .ok (.ifCond .eq 12, 3) := by decide +kernel
theorem dX6_droplet_10 : decode cX6_droplet 10 = .ok (.iload_n 2, 1) := by decide +kernel
theorem dX6_droplet_11 : decode cX6_droplet 11 = .ok (.iconst 0, 1) := by decide +kernel
theorem dX6_droplet_12 : decode cX6_droplet 12 = .ok (.iconst 3, 1) := by decide +kernel
theorem dX6_droplet_13 : decode cX6_droplet 13 = .ok (.invokestatic 85, 3) := by decide +kernel
theorem dX6_droplet_16 : decode cX6_droplet 16 = .ok (.ifCond .ne 6, 3) := by decide +kernel
theorem dX6_droplet_19 : decode cX6_droplet 19 = .ok (.bipush (-2), 2) := by decide +kernel
theorem dX6_droplet_21 : decode cX6_droplet 21 = .ok (.ireturn, 1) := by decide +kernel
theorem dX6_droplet_22 : decode cX6_droplet 22 = .ok (.aload_n 0, 1) := by decide +kernel
theorem dX6_droplet_23 : decode cX6_droplet 23 = .ok (.getfield 10, 3) := by decide +kernel
theorem dX6_droplet_26 : decode cX6_droplet 26 = .ok (.getfield 89, 3) := by decide +kernel
theorem dX6_droplet_29 : decode cX6_droplet 29 = .ok (.ifCond .ne 6, 3) := by decide +kernel
theorem dX6_droplet_32 : decode cX6_droplet 32 = .ok (.bipush (-5), 2) := by decide +kernel
theorem dX6_droplet_34 : decode cX6_droplet 34 = .ok (.ireturn, 1) := by decide +kernel
theorem dX6_droplet_35 : decode cX6_droplet 35 = .ok (.aload_n 0, 1) := by decide +kernel
theorem dX6_droplet_36 : decode cX6_droplet 36 = .ok (.getfield 37, 3) := by decide +kernel
theorem dX6_droplet_39 : decode cX6_droplet 39 = .ok (.aload_n 0, 1) := by decide +kernel
theorem dX6_droplet_40 : decode cX6_droplet 40 = .ok (.getfield 10, 3) := by decide +kernel
theorem dX6_droplet_43 : decode cX6_droplet 43 = .ok (.iload_n 1, 1) := by decide +kernel
theorem dX6_droplet_44 : decode cX6_droplet 44 = .ok (.invokevirtual 93, 3) := by decide +kernel
theorem dX6_droplet_47 : decode cX6_droplet 47 = .ok (.iload_n 2, 1) := by decide +kernel
theorem dX6_droplet_48 : decode cX6_droplet 48 = .ok (.tableswitch 52 0 2 #[28, 36, 44], 28) := by decide +kernel
theorem dX6_droplet_76 : decode cX6_droplet 76 = .ok (.aload_n 0, 1) := by decide +kernel
theorem dX6_droplet_77 : decode cX6_droplet 77 = .ok (.getfield 37, 3) := by decide +kernel
theorem dX6_droplet_80 : decode cX6_droplet 80 = .ok (.getfield 97, 3) := by decide +kernel
theorem dX6_droplet_83 : decode cX6_droplet 83 = .ok (.ireturn, 1) := by decide +kernel
theorem dX6_droplet_84 : decode cX6_droplet 84 = .ok (.aload_n 0, 1) := by decide +kernel
theorem dX6_droplet_85 : decode cX6_droplet 85 = .ok (.getfield 37, 3) := by decide +kernel
theorem dX6_droplet_88 : decode cX6_droplet 88 = .ok (.getfield 100, 3) := by decide +kernel
theorem dX6_droplet_91 : decode cX6_droplet 91 = .ok (.ireturn, 1) := by decide +kernel
theorem dX6_droplet_92 : decode cX6_droplet 92 = .ok (.aload_n 0, 1) := by decide +kernel
theorem dX6_droplet_93 : decode cX6_droplet 93 = .ok (.getfield 37, 3) := by decide +kernel
theorem dX6_droplet_96 : decode cX6_droplet 96 = .ok (.getfield 103, 3) := by decide +kernel
theorem dX6_droplet_99 : decode cX6_droplet 99 = .ok (.ireturn, 1) := by decide +kernel
theorem dX6_droplet_100 : decode cX6_droplet 100 = .ok (.aload_n 0, 1) := by decide +kernel
theorem dX6_droplet_101 : decode cX6_droplet 101 = .ok (.getfield 37, 3) := by decide +kernel
theorem dX6_droplet_104 : decode cX6_droplet 104 = .ok (.getfield 106, 3) := by decide +kernel
theorem dX6_droplet_107 : decode cX6_droplet 107 = .ok (.ifCond .eq 7, 3) := by decide +kernel
theorem dX6_droplet_110 : decode cX6_droplet 110 = .ok (.iconst 1, 1) := by decide +kernel
theorem dX6_droplet_111 : decode cX6_droplet 111 = .ok (.goto 4, 3) := by decide +kernel
theorem dX6_droplet_114 : decode cX6_droplet 114 = .ok (.iconst 0, 1) := by decide +kernel
theorem dX6_droplet_115 : decode cX6_droplet 115 = .ok (.ireturn, 1) := by decide +kernel
theorem dX6_ofCup_0 : decode cX6_ofCup 0 = .ok (.aload_n 0, 1) := by decide +kernel
theorem dX6_ofCup_1 : decode cX6_ofCup 1 = .ok (.getfield 10, 3) := by decide +kernel
theorem dX6_ofCup_4 : decode cX6_ofCup 4 = .ok (.iload_n 1, 1) := by decide +kernel
theorem dX6_ofCup_5 : decode cX6_ofCup 5 = .ok (.invokevirtual 110, 3) := by decide +kernel
theorem dX6_ofCup_8 : decode cX6_ofCup 8 = .ok (.astore_n 3, 1) := by decide +kernel
theorem dX6_ofCup_9 : decode cX6_ofCup 9 = .ok (.aload_n 3, 1) := by decide +kernel
theorem dX6_ofCup_10 : decode cX6_ofCup 10 = .ok (.ifnonnull 5, 3) := by decide +kernel
theorem dX6_ofCup_13 : decode cX6_ofCup 13 = .ok (.iconst (-1), 1) := by decide +kernel
theorem dX6_ofCup_14 : decode cX6_ofCup 14 = .ok (.ireturn, 1) := by decide +kernel
theorem dX6_ofCup_15 : decode cX6_ofCup 15 = .ok (.iload_n 2, 1) := by decide +kernel
theorem dX6_ofCup_16 : decode cX6_ofCup 16 = .ok (.tableswitch 104 0 6 #[44, 49, 54, 59, 64, 69, 83], 44) := by decide +kernel
theorem dX6_ofCup_60 : decode cX6_ofCup 60 = .ok (.aload_n 3, 1) := by decide +kernel
theorem dX6_ofCup_61 : decode cX6_ofCup 61 = .ok (.getfield 114, 3) := by decide +kernel
theorem dX6_ofCup_64 : decode cX6_ofCup 64 = .ok (.ireturn, 1) := by decide +kernel
theorem dX6_ofCup_65 : decode cX6_ofCup 65 = .ok (.aload_n 3, 1) := by decide +kernel
theorem dX6_ofCup_66 : decode cX6_ofCup 66 = .ok (.getfield 117, 3) := by decide +kernel
theorem dX6_ofCup_69 : decode cX6_ofCup 69 = .ok (.ireturn, 1) := by decide +kernel
theorem dX6_ofCup_70 : decode cX6_ofCup 70 = .ok (.aload_n 3, 1) := by decide +kernel
theorem dX6_ofCup_71 : decode cX6_ofCup 71 = .ok (.getfield 120, 3) := by decide +kernel
theorem dX6_ofCup_74 : decode cX6_ofCup 74 = .ok (.ireturn, 1) := by decide +kernel
theorem dX6_ofCup_75 : decode cX6_ofCup 75 = .ok (.aload_n 3, 1) := by decide +kernel
theorem dX6_ofCup_76 : decode cX6_ofCup 76 = .ok (.getfield 123, 3) := by decide +kernel
theorem dX6_ofCup_79 : decode cX6_ofCup 79 = .ok (.ireturn, 1) := by decide +kernel
theorem dX6_ofCup_80 : decode cX6_ofCup 80 = .ok (.aload_n 3, 1) := by decide +kernel
theorem dX6_ofCup_81 : decode cX6_ofCup 81 = .ok (.getfield 125, 3) := by decide +kernel
theorem dX6_ofCup_84 : decode cX6_ofCup 84 = .ok (.ireturn, 1) := by decide +kernel
theorem dX6_ofCup_85 : decode cX6_ofCup 85 = .ok (.aload_n 0, 1) := by decide +kernel
theorem dX6_ofCup_86 : decode cX6_ofCup 86 = .ok (.aload_n 3, 1) := by decide +kernel
theorem dX6_ofCup_87 : decode cX6_ofCup 87 = .ok (.invokevirtual 128, 3) := by decide +kernel
theorem dX6_ofCup_90 : decode cX6_ofCup 90 = .ok (.ifCond .eq 7, 3) := by decide +kernel
theorem dX6_ofCup_93 : decode cX6_ofCup 93 = .ok (.iconst 1, 1) := by decide +kernel
theorem dX6_ofCup_94 : decode cX6_ofCup 94 = .ok (.goto 4, 3) := by decide +kernel
theorem dX6_ofCup_97 : decode cX6_ofCup 97 = .ok (.iconst 0, 1) := by decide +kernel
theorem dX6_ofCup_98 : decode cX6_ofCup 98 = .ok (.ireturn, 1) := by decide +kernel
theorem dX6_ofCup_99 : decode cX6_ofCup 99 = .ok (.aload_n 0, 1) := by decide +kernel
theorem dX6_ofCup_100 : decode cX6_ofCup 100 = .ok (.getfield 51, 3) := by decide +kernel
theorem dX6_ofCup_103 : decode cX6_ofCup 103 = .ok (.aload_n 3, 1) := by decide +kernel
theorem dX6_ofCup_104 : decode cX6_ofCup 104 = .ok (.invokevirtual 132, 3) := by decide +kernel
theorem dX6_ofCup_107 : decode cX6_ofCup 107 = .ok (.aload_n 3, 1) := by decide +kernel
theorem dX6_ofCup_108 : decode cX6_ofCup 108 = .ok (.invokevirtual 136, 3) := by decide +kernel
theorem dX6_ofCup_111 : decode cX6_ofCup 111 = .ok (.aload_n 0, 1) := by decide +kernel
theorem dX6_ofCup_112 : decode cX6_ofCup 112 = .ok (.getfield 51, 3) := by decide +kernel
theorem dX6_ofCup_115 : decode cX6_ofCup 115 = .ok (.invokevirtual 139, 3) := by decide +kernel
theorem dX6_ofCup_118 : decode cX6_ofCup 118 = .ok (.iadd, 1) := by decide +kernel
theorem dX6_ofCup_119 : decode cX6_ofCup 119 = .ok (.ireturn, 1) := by decide +kernel
theorem dX6_ofCup_120 : decode cX6_ofCup 120 = .ok (.bipush (-2), 2) := by decide +kernel
theorem dX6_ofCup_122 : decode cX6_ofCup 122 = .ok (.ireturn, 1) := by decide +kernel
theorem dX6_known_0 : decode cX6_known 0 = .ok (.aload_n 0, 1) := by decide +kernel
theorem dX6_known_1 : decode cX6_known 1 = .ok (.getfield 10, 3) := by decide +kernel
theorem dX6_known_4 : decode cX6_known 4 = .ok (.iload_n 1, 1) := by decide +kernel
theorem dX6_known_5 : decode cX6_known 5 = .ok (.invokevirtual 110, 3) := by decide +kernel
theorem dX6_known_8 : decode cX6_known 8 = .ok (.astore_n 3, 1) := by decide +kernel
theorem dX6_known_9 : decode cX6_known 9 = .ok (.aload_n 3, 1) := by decide +kernel
theorem dX6_known_10 : decode cX6_known 10 = .ok (.ifnull 24, 3) := by decide +kernel
theorem dX6_known_13 : decode cX6_known 13 = .ok (.iload_n 2, 1) := by decide +kernel
theorem dX6_known_14 : decode cX6_known 14 = .ok (.iconst 0, 1) := by decide +kernel
theorem dX6_known_15 : decode cX6_known 15 = .ok (.bipush 15, 2) := by decide +kernel
theorem dX6_known_17 : decode cX6_known 17 = .ok (.invokestatic 85, 3) := by decide +kernel
theorem dX6_known_20 : decode cX6_known 20 = .ok (.ifCond .eq 14, 3) := by decide +kernel
theorem dX6_known_23 : decode cX6_known 23 = .ok (.iload_n 2, 1) := by decide +kernel
theorem dX6_known_24 : decode cX6_known 24 = .ok (.aload_n 0, 1) := by decide +kernel
theorem dX6_known_25 : decode cX6_known 25 = .ok (.getfield 10, 3) := by decide +kernel
theorem dX6_known_28 : decode cX6_known 28 = .ok (.getfield 89, 3) := by decide +kernel
theorem dX6_known_31 : decode cX6_known 31 = .ok (.if_icmp .lt 5, 3) := by decide +kernel
theorem dX6_known_34 : decode cX6_known 34 = .ok (.iconst (-1), 1) := by decide +kernel
theorem dX6_known_35 : decode cX6_known 35 = .ok (.ireturn, 1) := by decide +kernel
theorem dX6_known_36 : decode cX6_known 36 = .ok (.aload_n 3, 1) := by decide +kernel
theorem dX6_known_37 : decode cX6_known 37 = .ok (.getfield 114, 3) := by decide +kernel
theorem dX6_known_40 : decode cX6_known 40 = .ok (.iconst 1, 1) := by decide +kernel
theorem dX6_known_41 : decode cX6_known 41 = .ok (.iload_n 2, 1) := by decide +kernel
theorem dX6_known_42 : decode cX6_known 42 = .ok (.ishl, 1) := by decide +kernel
theorem dX6_known_43 : decode cX6_known 43 = .ok (.iand, 1) := by decide +kernel
theorem dX6_known_44 : decode cX6_known 44 = .ok (.ifCond .ne 8, 3) := by decide +kernel
theorem dX6_known_47 : decode cX6_known 47 = .ok (.bipush (-6), 2) := by decide +kernel
theorem dX6_known_49 : decode cX6_known 49 = .ok (.goto 9, 3) := by decide +kernel
theorem dX6_known_52 : decode cX6_known 52 = .ok (.aload_n 3, 1) := by decide +kernel
theorem dX6_known_53 : decode cX6_known 53 = .ok (.getfield 142, 3) := by decide +kernel
theorem dX6_known_56 : decode cX6_known 56 = .ok (.iload_n 2, 1) := by decide +kernel
theorem dX6_known_57 : decode cX6_known 57 = .ok (.iaload, 1) := by decide +kernel
theorem dX6_known_58 : decode cX6_known 58 = .ok (.ireturn, 1) := by decide +kernel
theorem dX6_kept_0 : decode cX6_kept 0 = .ok (.aload_n 0, 1) := by decide +kernel
theorem dX6_kept_1 : decode cX6_kept 1 = .ok (.getfield 10, 3) := by decide +kernel
theorem dX6_kept_4 : decode cX6_kept 4 = .ok (.iload_n 1, 1) := by decide +kernel
theorem dX6_kept_5 : decode cX6_kept 5 = .ok (.invokevirtual 110, 3) := by decide +kernel
theorem dX6_kept_8 : decode cX6_kept 8 = .ok (.astore 4, 2) := by decide +kernel
theorem dX6_kept_10 : decode cX6_kept 10 = .ok (.aload 4, 2) := by decide +kernel
theorem dX6_kept_12 : decode cX6_kept 12 = .ok (.ifnull 22, 3) := by decide +kernel
theorem dX6_kept_15 : decode cX6_kept 15 = .ok (.iload_n 2, 1) := by decide +kernel
theorem dX6_kept_16 : decode cX6_kept 16 = .ok (.iconst 0, 1) := by decide +kernel
theorem dX6_kept_17 : decode cX6_kept 17 = .ok (.bipush 23, 2) := by decide +kernel
theorem dX6_kept_19 : decode cX6_kept 19 = .ok (.invokestatic 85, 3) := by decide +kernel
theorem dX6_kept_22 : decode cX6_kept 22 = .ok (.ifCond .eq 12, 3) := by decide +kernel
theorem dX6_kept_25 : decode cX6_kept 25 = .ok (.iload_n 2, 1) := by decide +kernel
theorem dX6_kept_26 : decode cX6_kept 26 = .ok (.aload 4, 2) := by decide +kernel
theorem dX6_kept_28 : decode cX6_kept 28 = .ok (.getfield 117, 3) := by decide +kernel
theorem dX6_kept_31 : decode cX6_kept 31 = .ok (.if_icmp .lt 5, 3) := by decide +kernel
theorem dX6_kept_34 : decode cX6_kept 34 = .ok (.iconst (-1), 1) := by decide +kernel
theorem dX6_kept_35 : decode cX6_kept 35 = .ok (.ireturn, 1) := by decide +kernel
theorem dX6_kept_36 : decode cX6_kept 36 = .ok (.iload_n 3, 1) := by decide +kernel
theorem dX6_kept_37 : decode cX6_kept 37 = .ok (.lookupswitch 43 #[(0, 27), (1, 35)], 27) := by decide +kernel
theorem dX6_kept_64 : decode cX6_kept 64 = .ok (.aload 4, 2) := by decide +kernel
theorem dX6_kept_66 : decode cX6_kept 66 = .ok (.getfield 146, 3) := by decide +kernel
theorem dX6_kept_69 : decode cX6_kept 69 = .ok (.iload_n 2, 1) := by decide +kernel
theorem dX6_kept_70 : decode cX6_kept 70 = .ok (.iaload, 1) := by decide +kernel
theorem dX6_kept_71 : decode cX6_kept 71 = .ok (.ireturn, 1) := by decide +kernel
theorem dX6_kept_72 : decode cX6_kept 72 = .ok (.aload 4, 2) := by decide +kernel
theorem dX6_kept_74 : decode cX6_kept 74 = .ok (.getfield 149, 3) := by decide +kernel
theorem dX6_kept_77 : decode cX6_kept 77 = .ok (.iload_n 2, 1) := by decide +kernel
theorem dX6_kept_78 : decode cX6_kept 78 = .ok (.iaload, 1) := by decide +kernel
theorem dX6_kept_79 : decode cX6_kept 79 = .ok (.ireturn, 1) := by decide +kernel
theorem dX6_kept_80 : decode cX6_kept 80 = .ok (.bipush (-2), 2) := by decide +kernel
theorem dX6_kept_82 : decode cX6_kept 82 = .ok (.ireturn, 1) := by decide +kernel
theorem dX6_count_0 : decode cX6_count 0 = .ok (.iload_n 1, 1) := by decide +kernel
theorem dX6_count_1 : decode cX6_count 1 = .ok (.tableswitch 108 0 7 #[47, 55, 63, 68, 76, 84, 92, 100], 47) := by decide +kernel
theorem dX6_count_48 : decode cX6_count 48 = .ok (.aload_n 0, 1) := by decide +kernel
theorem dX6_count_49 : decode cX6_count 49 = .ok (.getfield 10, 3) := by decide +kernel
theorem dX6_count_52 : decode cX6_count 52 = .ok (.getfield 89, 3) := by decide +kernel
theorem dX6_count_55 : decode cX6_count 55 = .ok (.ireturn, 1) := by decide +kernel
theorem dX6_count_56 : decode cX6_count 56 = .ok (.aload_n 0, 1) := by decide +kernel
theorem dX6_count_57 : decode cX6_count 57 = .ok (.getfield 10, 3) := by decide +kernel
theorem dX6_count_60 : decode cX6_count 60 = .ok (.getfield 152, 3) := by decide +kernel
theorem dX6_count_63 : decode cX6_count 63 = .ok (.ireturn, 1) := by decide +kernel
theorem dX6_count_64 : decode cX6_count 64 = .ok (.aload_n 0, 1) := by decide +kernel
theorem dX6_count_65 : decode cX6_count 65 = .ok (.invokevirtual 155, 3) := by decide +kernel
theorem dX6_count_68 : decode cX6_count 68 = .ok (.ireturn, 1) := by decide +kernel
theorem dX6_count_69 : decode cX6_count 69 = .ok (.aload_n 0, 1) := by decide +kernel
theorem dX6_count_70 : decode cX6_count 70 = .ok (.getfield 10, 3) := by decide +kernel
theorem dX6_count_73 : decode cX6_count 73 = .ok (.getfield 158, 3) := by decide +kernel
theorem dX6_count_76 : decode cX6_count 76 = .ok (.ireturn, 1) := by decide +kernel
theorem dX6_count_77 : decode cX6_count 77 = .ok (.aload_n 0, 1) := by decide +kernel
theorem dX6_count_78 : decode cX6_count 78 = .ok (.getfield 10, 3) := by decide +kernel
theorem dX6_count_81 : decode cX6_count 81 = .ok (.getfield 159, 3) := by decide +kernel
theorem dX6_count_84 : decode cX6_count 84 = .ok (.ireturn, 1) := by decide +kernel
theorem dX6_count_85 : decode cX6_count 85 = .ok (.aload_n 0, 1) := by decide +kernel
theorem dX6_count_86 : decode cX6_count 86 = .ok (.getfield 10, 3) := by decide +kernel
theorem dX6_count_89 : decode cX6_count 89 = .ok (.getfield 162, 3) := by decide +kernel
theorem dX6_count_92 : decode cX6_count 92 = .ok (.ireturn, 1) := by decide +kernel
theorem dX6_count_93 : decode cX6_count 93 = .ok (.aload_n 0, 1) := by decide +kernel
theorem dX6_count_94 : decode cX6_count 94 = .ok (.getfield 30, 3) := by decide +kernel
theorem dX6_count_97 : decode cX6_count 97 = .ok (.getfield 165, 3) := by decide +kernel
theorem dX6_count_100 : decode cX6_count 100 = .ok (.ireturn, 1) := by decide +kernel
theorem dX6_count_101 : decode cX6_count 101 = .ok (.aload_n 0, 1) := by decide +kernel
theorem dX6_count_102 : decode cX6_count 102 = .ok (.getfield 19, 3) := by decide +kernel
theorem dX6_count_105 : decode cX6_count 105 = .ok (.getfield 168, 3) := by decide +kernel
theorem dX6_count_108 : decode cX6_count 108 = .ok (.ireturn, 1) := by decide +kernel
theorem dX6_count_109 : decode cX6_count 109 = .ok (.bipush (-2), 2) := by decide +kernel
theorem dX6_count_111 : decode cX6_count 111 = .ok (.ireturn, 1) := by decide +kernel
theorem dX6_would_0 : decode cX6_would 0 = .ok (.aload_n 0, 1) := by decide +kernel
theorem dX6_would_1 : decode cX6_would 1 = .ok (.getfield 10, 3) := by decide +kernel
theorem dX6_would_4 : decode cX6_would 4 = .ok (.iload_n 1, 1) := by decide +kernel
theorem dX6_would_5 : decode cX6_would 5 = .ok (.invokevirtual 110, 3) := by decide +kernel
theorem dX6_would_8 : decode cX6_would 8 = .ok (.astore_n 3, 1) := by decide +kernel
theorem dX6_would_9 : decode cX6_would 9 = .ok (.aload_n 3, 1) := by decide +kernel
theorem dX6_would_10 : decode cX6_would 10 = .ok (.ifnonnull 5, 3) := by decide +kernel
theorem dX6_would_13 : decode cX6_would 13 = .ok (.iconst (-1), 1) := by decide +kernel
theorem dX6_would_14 : decode cX6_would 14 = .ok (.ireturn, 1) := by decide +kernel
theorem dX6_would_15 : decode cX6_would 15 = .ok (.aload_n 0, 1) := by decide +kernel
theorem dX6_would_16 : decode cX6_would 16 = .ok (.iload_n 2, 1) := by decide +kernel
theorem dX6_would_17 : decode cX6_would 17 = .ok (.iconst 1, 1) := by decide +kernel
theorem dX6_would_18 : decode cX6_would 18 = .ok (.invokevirtual 171, 3) := by decide +kernel
theorem dX6_would_21 : decode cX6_would 21 = .ok (.istore 4, 2) := by decide +kernel
theorem dX6_would_23 : decode cX6_would 23 = .ok (.iload 4, 2) := by decide +kernel
theorem dX6_would_25 : decode cX6_would 25 = .ok (.ifCond .ge 6, 3) := by decide +kernel
theorem dX6_would_28 : decode cX6_would 28 = .ok (.iload 4, 2) := by decide +kernel
theorem dX6_would_30 : decode cX6_would 30 = .ok (.ireturn, 1) := by decide +kernel
theorem dX6_would_31 : decode cX6_would 31 = .ok (.aload_n 0, 1) := by decide +kernel
theorem dX6_would_32 : decode cX6_would 32 = .ok (.getfield 37, 3) := by decide +kernel
theorem dX6_would_35 : decode cX6_would 35 = .ok (.aload_n 0, 1) := by decide +kernel
theorem dX6_would_36 : decode cX6_would 36 = .ok (.getfield 10, 3) := by decide +kernel
theorem dX6_would_39 : decode cX6_would 39 = .ok (.iload_n 2, 1) := by decide +kernel
theorem dX6_would_40 : decode cX6_would 40 = .ok (.invokevirtual 93, 3) := by decide +kernel
theorem dX6_would_43 : decode cX6_would 43 = .ok (.aload_n 0, 1) := by decide +kernel
theorem dX6_would_44 : decode cX6_would 44 = .ok (.getfield 37, 3) := by decide +kernel
theorem dX6_would_47 : decode cX6_would 47 = .ok (.getfield 106, 3) := by decide +kernel
theorem dX6_would_50 : decode cX6_would 50 = .ok (.ifCond .eq 5, 3) := by decide +kernel
theorem dX6_would_53 : decode cX6_would 53 = .ok (.iconst 0, 1) := by decide +kernel
theorem dX6_would_54 : decode cX6_would 54 = .ok (.ireturn, 1) := by decide +kernel
theorem dX6_would_55 : decode cX6_would 55 = .ok (.aload_n 0, 1) := by decide +kernel
theorem dX6_would_56 : decode cX6_would 56 = .ok (.getfield 44, 3) := by decide +kernel
theorem dX6_would_59 : decode cX6_would 59 = .ok (.aload_n 3, 1) := by decide +kernel
theorem dX6_would_60 : decode cX6_would 60 = .ok (.invokevirtual 174, 3) := by decide +kernel
theorem dX6_would_63 : decode cX6_would 63 = .ok (.aload_n 0, 1) := by decide +kernel
theorem dX6_would_64 : decode cX6_would 64 = .ok (.getfield 44, 3) := by decide +kernel
theorem dX6_would_67 : decode cX6_would 67 = .ok (.aload_n 0, 1) := by decide +kernel
theorem dX6_would_68 : decode cX6_would 68 = .ok (.getfield 37, 3) := by decide +kernel
theorem dX6_would_71 : decode cX6_would 71 = .ok (.invokevirtual 177, 3) := by decide +kernel
theorem dX6_would_74 : decode cX6_would 74 = .ok (.istore 5, 2) := by decide +kernel
theorem dX6_would_76 : decode cX6_would 76 = .ok (.iload 5, 2) := by decide +kernel
theorem dX6_would_78 : decode cX6_would 78 = .ok (.ifCond .le 8, 3) := by decide +kernel
theorem dX6_would_81 : decode cX6_would 81 = .ok (.iconst 2, 1) := by decide +kernel
theorem dX6_would_82 : decode cX6_would 82 = .ok (.iload 5, 2) := by decide +kernel
theorem dX6_would_84 : decode cX6_would 84 = .ok (.iadd, 1) := by decide +kernel
theorem dX6_would_85 : decode cX6_would 85 = .ok (.ireturn, 1) := by decide +kernel
theorem dX6_would_86 : decode cX6_would 86 = .ok (.aload_n 0, 1) := by decide +kernel
theorem dX6_would_87 : decode cX6_would 87 = .ok (.getfield 44, 3) := by decide +kernel
theorem dX6_would_90 : decode cX6_would 90 = .ok (.getfield 125, 3) := by decide +kernel
theorem dX6_would_93 : decode cX6_would 93 = .ok (.aload_n 3, 1) := by decide +kernel
theorem dX6_would_94 : decode cX6_would 94 = .ok (.getfield 125, 3) := by decide +kernel
theorem dX6_would_97 : decode cX6_would 97 = .ok (.if_icmp .le 7, 3) := by decide +kernel
theorem dX6_would_100 : decode cX6_would 100 = .ok (.iconst 1, 1) := by decide +kernel
theorem dX6_would_101 : decode cX6_would 101 = .ok (.goto 4, 3) := by decide +kernel
theorem dX6_would_104 : decode cX6_would 104 = .ok (.iconst 2, 1) := by decide +kernel
theorem dX6_would_105 : decode cX6_would 105 = .ok (.ireturn, 1) := by decide +kernel
theorem dX6_degrees_0 : decode cX6_degrees 0 = .ok (.iload_n 1, 1) := by decide +kernel
theorem dX6_degrees_1 : decode cX6_degrees 1 = .ok (.iconst 0, 1) := by decide +kernel
theorem dX6_degrees_2 : decode cX6_degrees 2 = .ok (.ldc 84, 2) := by decide +kernel
theorem dX6_degrees_4 : decode cX6_degrees 4 = .ok (.invokestatic 85, 3) := by decide +kernel
theorem dX6_degrees_7 : decode cX6_degrees 7 = .ok (.ifCond .eq 24, 3) := by decide +kernel
theorem dX6_degrees_10 : decode cX6_degrees 10 = .ok (.iload_n 2, 1) := by decide +kernel
theorem dX6_degrees_11 : decode cX6_degrees 11 = .ok (.iconst 1, 1) := by decide +kernel
theorem dX6_degrees_12 : decode cX6_degrees 12 = .ok (.sipush 999, 3) := by decide +kernel
theorem dX6_degrees_15 : decode cX6_degrees 15 = .ok (.invokestatic 85, 3) := by decide +kernel
theorem dX6_degrees_18 : decode cX6_degrees 18 = .ok (.ifCond .eq 13, 3) := by decide +kernel
theorem dX6_degrees_21 : decode cX6_degrees 21 = .ok (.iload_n 3, 1) := by decide +kernel
theorem dX6_degrees_22 : decode cX6_degrees 22 = .ok (.iconst 1, 1) := by decide +kernel
theorem dX6_degrees_23 : decode cX6_degrees 23 = .ok (.bipush 16, 2) := by decide +kernel
theorem dX6_degrees_25 : decode cX6_degrees 25 = .ok (.invokestatic 85, 3) := by decide +kernel
theorem dX6_degrees_28 : decode cX6_degrees 28 = .ok (.ifCond .ne 6, 3) := by decide +kernel
theorem dX6_degrees_31 : decode cX6_degrees 31 = .ok (.bipush (-2), 2) := by decide +kernel
theorem dX6_degrees_33 : decode cX6_degrees 33 = .ok (.ireturn, 1) := by decide +kernel
theorem dX6_degrees_34 : decode cX6_degrees 34 = .ok (.aload_n 0, 1) := by decide +kernel
theorem dX6_degrees_35 : decode cX6_degrees 35 = .ok (.getfield 10, 3) := by decide +kernel
theorem dX6_degrees_38 : decode cX6_degrees 38 = .ok (.getfield 89, 3) := by decide +kernel
theorem dX6_degrees_41 : decode cX6_degrees 41 = .ok (.ifCond .ne 6, 3) := by decide +kernel
theorem dX6_degrees_44 : decode cX6_degrees 44 = .ok (.bipush (-5), 2) := by decide +kernel
theorem dX6_degrees_46 : decode cX6_degrees 46 = .ok (.ireturn, 1) := by decide +kernel
theorem dX6_degrees_47 : decode cX6_degrees 47 = .ok (.iconst 0, 1) := by decide +kernel
theorem dX6_degrees_48 : decode cX6_degrees 48 = .ok (.istore 4, 2) := by decide +kernel
theorem dX6_degrees_50 : decode cX6_degrees 50 = .ok (.iconst 0, 1) := by decide +kernel
theorem dX6_degrees_51 : decode cX6_degrees 51 = .ok (.istore 5, 2) := by decide +kernel
theorem dX6_degrees_53 : decode cX6_degrees 53 = .ok (.iload 5, 2) := by decide +kernel
theorem dX6_degrees_55 : decode cX6_degrees 55 = .ok (.iload_n 2, 1) := by decide +kernel
theorem dX6_degrees_56 : decode cX6_degrees 56 = .ok (.if_icmp .ge 41, 3) := by decide +kernel
theorem dX6_degrees_59 : decode cX6_degrees 59 = .ok (.aload_n 0, 1) := by decide +kernel
theorem dX6_degrees_60 : decode cX6_degrees 60 = .ok (.getfield 37, 3) := by decide +kernel
theorem dX6_degrees_63 : decode cX6_degrees 63 = .ok (.aload_n 0, 1) := by decide +kernel
theorem dX6_degrees_64 : decode cX6_degrees 64 = .ok (.getfield 10, 3) := by decide +kernel
theorem dX6_degrees_67 : decode cX6_degrees 67 = .ok (.iload_n 1, 1) := by decide +kernel
theorem dX6_degrees_68 : decode cX6_degrees 68 = .ok (.iload 5, 2) := by decide +kernel
theorem dX6_degrees_70 : decode cX6_degrees 70 = .ok (.iadd, 1) := by decide +kernel
theorem dX6_degrees_71 : decode cX6_degrees 71 = .ok (.invokestatic 181, 3) := by decide +kernel
theorem dX6_degrees_74 : decode cX6_degrees 74 = .ok (.invokevirtual 93, 3) := by decide +kernel
theorem dX6_degrees_77 : decode cX6_degrees 77 = .ok (.aload_n 0, 1) := by decide +kernel
theorem dX6_degrees_78 : decode cX6_degrees 78 = .ok (.getfield 37, 3) := by decide +kernel
theorem dX6_degrees_81 : decode cX6_degrees 81 = .ok (.getfield 97, 3) := by decide +kernel
theorem dX6_degrees_84 : decode cX6_degrees 84 = .ok (.iload_n 3, 1) := by decide +kernel
theorem dX6_degrees_85 : decode cX6_degrees 85 = .ok (.if_icmp .ne 6, 3) := by decide +kernel
theorem dX6_degrees_88 : decode cX6_degrees 88 = .ok (.iinc 4 1, 3) := by decide +kernel
theorem dX6_degrees_91 : decode cX6_degrees 91 = .ok (.iinc 5 1, 3) := by decide +kernel
theorem dX6_degrees_94 : decode cX6_degrees 94 = .ok (.goto (-41), 3) := by decide +kernel
theorem dX6_degrees_97 : decode cX6_degrees 97 = .ok (.iload 4, 2) := by decide +kernel
theorem dX6_degrees_99 : decode cX6_degrees 99 = .ok (.ireturn, 1) := by decide +kernel
theorem dX6_changeSetting_0 : decode cX6_changeSetting 0 = .ok (.iload_n 1, 1) := by decide +kernel
theorem dX6_changeSetting_1 : decode cX6_changeSetting 1 = .ok (.ifCond .ne 30, 3) := by decide +kernel
theorem dX6_changeSetting_4 : decode cX6_changeSetting 4 = .ok (.iload_n 2, 1) := by decide +kernel
theorem dX6_changeSetting_5 : decode cX6_changeSetting 5 = .ok (.iconst 0, 1) := by decide +kernel
theorem dX6_changeSetting_6 : decode cX6_changeSetting 6 = .ok (.iconst 2, 1) := by decide +kernel
theorem dX6_changeSetting_7 : decode cX6_changeSetting 7 = .ok (.invokestatic 85, 3) := by decide +kernel
theorem dX6_changeSetting_10 : decode cX6_changeSetting 10 = .ok (.ifCond .eq 21, 3) := by decide +kernel
theorem dX6_changeSetting_13 : decode cX6_changeSetting 13 = .ok (.aload_n 0, 1) := by decide +kernel
theorem dX6_changeSetting_14 : decode cX6_changeSetting 14 = .ok (.getfield 10, 3) := by decide +kernel
theorem dX6_changeSetting_17 : decode cX6_changeSetting 17 = .ok (.getfield 159, 3) := by decide +kernel
theorem dX6_changeSetting_20 : decode cX6_changeSetting 20 = .ok (.istore_n 3, 1) := by decide +kernel
theorem dX6_changeSetting_21 : decode cX6_changeSetting 21 = .ok (.aload_n 0, 1) := by decide +kernel
theorem dX6_changeSetting_22 : decode cX6_changeSetting 22 = .ok (.getfield 10, 3) := by decide +kernel
theorem dX6_changeSetting_25 : decode cX6_changeSetting 25 = .ok (.iload_n 2, 1) := by decide +kernel
theorem dX6_changeSetting_26 : decode cX6_changeSetting 26 = .ok (.putfield 159, 3) := by decide +kernel
theorem dX6_changeSetting_29 : decode cX6_changeSetting 29 = .ok (.iload_n 3, 1) := by decide +kernel
theorem dX6_changeSetting_30 : decode cX6_changeSetting 30 = .ok (.ireturn, 1) := by decide +kernel
theorem dX6_changeSetting_31 : decode cX6_changeSetting 31 = .ok (.iload_n 1, 1) := by decide +kernel
theorem dX6_changeSetting_32 : decode cX6_changeSetting 32 = .ok (.iconst 1, 1) := by decide +kernel
theorem dX6_changeSetting_33 : decode cX6_changeSetting 33 = .ok (.if_icmp .ne 31, 3) := by decide +kernel
theorem dX6_changeSetting_36 : decode cX6_changeSetting 36 = .ok (.iload_n 2, 1) := by decide +kernel
theorem dX6_changeSetting_37 : decode cX6_changeSetting 37 = .ok (.iconst 0, 1) := by decide +kernel
theorem dX6_changeSetting_38 : decode cX6_changeSetting 38 = .ok (.bipush 99, 2) := by decide +kernel
theorem dX6_changeSetting_40 : decode cX6_changeSetting 40 = .ok (.invokestatic 85, 3) := by decide +kernel
theorem dX6_changeSetting_43 : decode cX6_changeSetting 43 = .ok (.ifCond .eq 21, 3) := by decide +kernel
theorem dX6_changeSetting_46 : decode cX6_changeSetting 46 = .ok (.aload_n 0, 1) := by decide +kernel
theorem dX6_changeSetting_47 : decode cX6_changeSetting 47 = .ok (.getfield 10, 3) := by decide +kernel
theorem dX6_changeSetting_50 : decode cX6_changeSetting 50 = .ok (.getfield 162, 3) := by decide +kernel
theorem dX6_changeSetting_53 : decode cX6_changeSetting 53 = .ok (.istore_n 3, 1) := by decide +kernel
theorem dX6_changeSetting_54 : decode cX6_changeSetting 54 = .ok (.aload_n 0, 1) := by decide +kernel
theorem dX6_changeSetting_55 : decode cX6_changeSetting 55 = .ok (.getfield 10, 3) := by decide +kernel
theorem dX6_changeSetting_58 : decode cX6_changeSetting 58 = .ok (.iload_n 2, 1) := by decide +kernel
theorem dX6_changeSetting_59 : decode cX6_changeSetting 59 = .ok (.putfield 162, 3) := by decide +kernel
theorem dX6_changeSetting_62 : decode cX6_changeSetting 62 = .ok (.iload_n 3, 1) := by decide +kernel
theorem dX6_changeSetting_63 : decode cX6_changeSetting 63 = .ok (.ireturn, 1) := by decide +kernel
theorem dX6_changeSetting_64 : decode cX6_changeSetting 64 = .ok (.bipush (-2), 2) := by decide +kernel
theorem dX6_changeSetting_66 : decode cX6_changeSetting 66 = .ok (.ireturn, 1) := by decide +kernel
theorem dX6_addChapter_0 : decode cX6_addChapter 0 = .ok (.iload_n 1, 1) := by decide +kernel
theorem dX6_addChapter_1 : decode cX6_addChapter 1 = .ok (.iconst 0, 1) := by decide +kernel
theorem dX6_addChapter_2 : decode cX6_addChapter 2 = .ok (.ldc 84, 2) := by decide +kernel
theorem dX6_addChapter_4 : decode cX6_addChapter 4 = .ok (.invokestatic 85, 3) := by decide +kernel
theorem dX6_addChapter_7 : decode cX6_addChapter 7 = .ok (.ifCond .ne 6, 3) := by decide +kernel
theorem dX6_addChapter_10 : decode cX6_addChapter 10 = .ok (.bipush (-2), 2) := by decide +kernel
theorem dX6_addChapter_12 : decode cX6_addChapter 12 = .ok (.ireturn, 1) := by decide +kernel
theorem dX6_addChapter_13 : decode cX6_addChapter 13 = .ok (.aload_n 0, 1) := by decide +kernel
theorem dX6_addChapter_14 : decode cX6_addChapter 14 = .ok (.getfield 10, 3) := by decide +kernel
theorem dX6_addChapter_17 : decode cX6_addChapter 17 = .ok (.getfield 152, 3) := by decide +kernel
theorem dX6_addChapter_20 : decode cX6_addChapter 20 = .ok (.ifCond .le 6, 3) := by decide +kernel
theorem dX6_addChapter_23 : decode cX6_addChapter 23 = .ok (.bipush (-5), 2) := by decide +kernel
theorem dX6_addChapter_25 : decode cX6_addChapter 25 = .ok (.ireturn, 1) := by decide +kernel
theorem dX6_addChapter_26 : decode cX6_addChapter 26 = .ok (.aload_n 0, 1) := by decide +kernel
theorem dX6_addChapter_27 : decode cX6_addChapter 27 = .ok (.getfield 10, 3) := by decide +kernel
theorem dX6_addChapter_30 : decode cX6_addChapter 30 = .ok (.getfield 89, 3) := by decide +kernel
theorem dX6_addChapter_33 : decode cX6_addChapter 33 = .ok (.istore_n 2, 1) := by decide +kernel
theorem dX6_addChapter_34 : decode cX6_addChapter 34 = .ok (.iload_n 2, 1) := by decide +kernel
theorem dX6_addChapter_35 : decode cX6_addChapter 35 = .ok (.iconst 0, 1) := by decide +kernel
theorem dX6_addChapter_36 : decode cX6_addChapter 36 = .ok (.bipush 15, 2) := by decide +kernel
theorem dX6_addChapter_38 : decode cX6_addChapter 38 = .ok (.invokestatic 85, 3) := by decide +kernel
theorem dX6_addChapter_41 : decode cX6_addChapter 41 = .ok (.ifCond .ne 6, 3) := by decide +kernel
theorem dX6_addChapter_44 : decode cX6_addChapter 44 = .ok (.bipush (-4), 2) := by decide +kernel
theorem dX6_addChapter_46 : decode cX6_addChapter 46 = .ok (.ireturn, 1) := by decide +kernel
theorem dX6_addChapter_47 : decode cX6_addChapter 47 = .ok (.aload_n 0, 1) := by decide +kernel
theorem dX6_addChapter_48 : decode cX6_addChapter 48 = .ok (.getfield 10, 3) := by decide +kernel
theorem dX6_addChapter_51 : decode cX6_addChapter 51 = .ok (.getfield 220, 3) := by decide +kernel
theorem dX6_addChapter_54 : decode cX6_addChapter 54 = .ok (.iload_n 2, 1) := by decide +kernel
theorem dX6_addChapter_55 : decode cX6_addChapter 55 = .ok (.iload_n 1, 1) := by decide +kernel
theorem dX6_addChapter_56 : decode cX6_addChapter 56 = .ok (.iastore, 1) := by decide +kernel
theorem dX6_addChapter_57 : decode cX6_addChapter 57 = .ok (.aload_n 0, 1) := by decide +kernel
theorem dX6_addChapter_58 : decode cX6_addChapter 58 = .ok (.getfield 10, 3) := by decide +kernel
theorem dX6_addChapter_61 : decode cX6_addChapter 61 = .ok (.dup, 1) := by decide +kernel
theorem dX6_addChapter_62 : decode cX6_addChapter 62 = .ok (.getfield 89, 3) := by decide +kernel
theorem dX6_addChapter_65 : decode cX6_addChapter 65 = .ok (.iconst 1, 1) := by decide +kernel
theorem dX6_addChapter_66 : decode cX6_addChapter 66 = .ok (.iadd, 1) := by decide +kernel
theorem dX6_addChapter_67 : decode cX6_addChapter 67 = .ok (.putfield 89, 3) := by decide +kernel
theorem dX6_addChapter_70 : decode cX6_addChapter 70 = .ok (.iload_n 2, 1) := by decide +kernel
theorem dX6_addChapter_71 : decode cX6_addChapter 71 = .ok (.ireturn, 1) := by decide +kernel
theorem dX6_addCup_0 : decode cX6_addCup 0 = .ok (.aload_n 0, 1) := by decide +kernel
theorem dX6_addCup_1 : decode cX6_addCup 1 = .ok (.getfield 10, 3) := by decide +kernel
theorem dX6_addCup_4 : decode cX6_addCup 4 = .ok (.getfield 152, 3) := by decide +kernel
theorem dX6_addCup_7 : decode cX6_addCup 7 = .ok (.iconst 3, 1) := by decide +kernel
theorem dX6_addCup_8 : decode cX6_addCup 8 = .ok (.if_icmp .lt 6, 3) := by decide +kernel
theorem dX6_addCup_11 : decode cX6_addCup 11 = .ok (.bipush (-4), 2) := by decide +kernel
theorem dX6_addCup_13 : decode cX6_addCup 13 = .ok (.ireturn, 1) := by decide +kernel
theorem dX6_addCup_14 : decode cX6_addCup 14 = .ok (.aload_n 0, 1) := by decide +kernel
theorem dX6_addCup_15 : decode cX6_addCup 15 = .ok (.getfield 10, 3) := by decide +kernel
theorem dX6_addCup_18 : decode cX6_addCup 18 = .ok (.getfield 152, 3) := by decide +kernel
theorem dX6_addCup_21 : decode cX6_addCup 21 = .ok (.istore_n 1, 1) := by decide +kernel
theorem dX6_addCup_22 : decode cX6_addCup 22 = .ok (.aload_n 0, 1) := by decide +kernel
theorem dX6_addCup_23 : decode cX6_addCup 23 = .ok (.getfield 10, 3) := by decide +kernel
theorem dX6_addCup_26 : decode cX6_addCup 26 = .ok (.dup, 1) := by decide +kernel
theorem dX6_addCup_27 : decode cX6_addCup 27 = .ok (.getfield 152, 3) := by decide +kernel
theorem dX6_addCup_30 : decode cX6_addCup 30 = .ok (.iconst 1, 1) := by decide +kernel
theorem dX6_addCup_31 : decode cX6_addCup 31 = .ok (.iadd, 1) := by decide +kernel
theorem dX6_addCup_32 : decode cX6_addCup 32 = .ok (.putfield 152, 3) := by decide +kernel
theorem dX6_addCup_35 : decode cX6_addCup 35 = .ok (.iload_n 1, 1) := by decide +kernel
theorem dX6_addCup_36 : decode cX6_addCup 36 = .ok (.ireturn, 1) := by decide +kernel
theorem dX6_emptyCup_0 : decode cX6_emptyCup 0 = .ok (.aload_n 0, 1) := by decide +kernel
theorem dX6_emptyCup_1 : decode cX6_emptyCup 1 = .ok (.getfield 10, 3) := by decide +kernel
theorem dX6_emptyCup_4 : decode cX6_emptyCup 4 = .ok (.iload_n 1, 1) := by decide +kernel
theorem dX6_emptyCup_5 : decode cX6_emptyCup 5 = .ok (.invokevirtual 110, 3) := by decide +kernel
theorem dX6_emptyCup_8 : decode cX6_emptyCup 8 = .ok (.astore_n 2, 1) := by decide +kernel
theorem dX6_emptyCup_9 : decode cX6_emptyCup 9 = .ok (.aload_n 2, 1) := by decide +kernel
theorem dX6_emptyCup_10 : decode cX6_emptyCup 10 = .ok (.ifnonnull 5, 3) := by decide +kernel
theorem dX6_emptyCup_13 : decode cX6_emptyCup 13 = .ok (.iconst (-1), 1) := by decide +kernel
theorem dX6_emptyCup_14 : decode cX6_emptyCup 14 = .ok (.ireturn, 1) := by decide +kernel
theorem dX6_emptyCup_15 : decode cX6_emptyCup 15 = .ok (.aload_n 2, 1) := by decide +kernel
theorem dX6_emptyCup_16 : decode cX6_emptyCup 16 = .ok (.invokevirtual 136, 3) := by decide +kernel
theorem dX6_emptyCup_19 : decode cX6_emptyCup 19 = .ok (.istore_n 3, 1) := by decide +kernel
theorem dX6_emptyCup_20 : decode cX6_emptyCup 20 = .ok (.aload_n 2, 1) := by decide +kernel
theorem dX6_emptyCup_21 : decode cX6_emptyCup 21 = .ok (.invokevirtual 223, 3) := by decide +kernel
theorem dX6_emptyCup_24 : decode cX6_emptyCup 24 = .ok (.iload_n 3, 1) := by decide +kernel
theorem dX6_emptyCup_25 : decode cX6_emptyCup 25 = .ok (.ireturn, 1) := by decide +kernel
theorem dX6_pourDroplets_0 : decode cX6_pourDroplets 0 = .ok (.aload_n 0, 1) := by decide +kernel
theorem dX6_pourDroplets_1 : decode cX6_pourDroplets 1 = .ok (.getfield 10, 3) := by decide +kernel
theorem dX6_pourDroplets_4 : decode cX6_pourDroplets 4 = .ok (.iload_n 1, 1) := by decide +kernel
theorem dX6_pourDroplets_5 : decode cX6_pourDroplets 5 = .ok (.invokevirtual 110, 3) := by decide +kernel
theorem dX6_pourDroplets_8 : decode cX6_pourDroplets 8 = .ok (.astore 4, 2) := by decide +kernel
theorem dX6_pourDroplets_10 : decode cX6_pourDroplets 10 = .ok (.aload 4, 2) := by decide +kernel
theorem dX6_pourDroplets_12 : decode cX6_pourDroplets 12 = .ok (.ifnonnull 5, 3) := by decide +kernel
theorem dX6_pourDroplets_15 : decode cX6_pourDroplets 15 = .ok (.iconst (-1), 1) := by decide +kernel
theorem dX6_pourDroplets_16 : decode cX6_pourDroplets 16 = .ok (.ireturn, 1) := by decide +kernel
theorem dX6_pourDroplets_17 : decode cX6_pourDroplets 17 = .ok (.aload_n 0, 1) := by decide +kernel
theorem dX6_pourDroplets_18 : decode cX6_pourDroplets 18 = .ok (.iload_n 2, 1) := by decide +kernel
theorem dX6_pourDroplets_19 : decode cX6_pourDroplets 19 = .ok (.iload_n 3, 1) := by decide +kernel
theorem dX6_pourDroplets_20 : decode cX6_pourDroplets 20 = .ok (.invokevirtual 171, 3) := by decide +kernel
theorem dX6_pourDroplets_23 : decode cX6_pourDroplets 23 = .ok (.istore 5, 2) := by decide +kernel
theorem dX6_pourDroplets_25 : decode cX6_pourDroplets 25 = .ok (.iload 5, 2) := by decide +kernel
theorem dX6_pourDroplets_27 : decode cX6_pourDroplets 27 = .ok (.ifCond .ge 6, 3) := by decide +kernel
theorem dX6_pourDroplets_30 : decode cX6_pourDroplets 30 = .ok (.iload 5, 2) := by decide +kernel
theorem dX6_pourDroplets_32 : decode cX6_pourDroplets 32 = .ok (.ireturn, 1) := by decide +kernel
theorem dX6_pourDroplets_33 : decode cX6_pourDroplets 33 = .ok (.iconst 0, 1) := by decide +kernel
theorem dX6_pourDroplets_34 : decode cX6_pourDroplets 34 = .ok (.istore 6, 2) := by decide +kernel
theorem dX6_pourDroplets_36 : decode cX6_pourDroplets 36 = .ok (.iconst 0, 1) := by decide +kernel
theorem dX6_pourDroplets_37 : decode cX6_pourDroplets 37 = .ok (.istore 7, 2) := by decide +kernel
theorem dX6_pourDroplets_39 : decode cX6_pourDroplets 39 = .ok (.iload 7, 2) := by decide +kernel
theorem dX6_pourDroplets_41 : decode cX6_pourDroplets 41 = .ok (.iload_n 3, 1) := by decide +kernel
theorem dX6_pourDroplets_42 : decode cX6_pourDroplets 42 = .ok (.if_icmp .ge 41, 3) := by decide +kernel
theorem dX6_pourDroplets_45 : decode cX6_pourDroplets 45 = .ok (.aload_n 0, 1) := by decide +kernel
theorem dX6_pourDroplets_46 : decode cX6_pourDroplets 46 = .ok (.getfield 37, 3) := by decide +kernel
theorem dX6_pourDroplets_49 : decode cX6_pourDroplets 49 = .ok (.aload_n 0, 1) := by decide +kernel
theorem dX6_pourDroplets_50 : decode cX6_pourDroplets 50 = .ok (.getfield 10, 3) := by decide +kernel
theorem dX6_pourDroplets_53 : decode cX6_pourDroplets 53 = .ok (.iload_n 2, 1) := by decide +kernel
theorem dX6_pourDroplets_54 : decode cX6_pourDroplets 54 = .ok (.iload 7, 2) := by decide +kernel
theorem dX6_pourDroplets_56 : decode cX6_pourDroplets 56 = .ok (.iadd, 1) := by decide +kernel
theorem dX6_pourDroplets_57 : decode cX6_pourDroplets 57 = .ok (.invokestatic 181, 3) := by decide +kernel
theorem dX6_pourDroplets_60 : decode cX6_pourDroplets 60 = .ok (.invokevirtual 93, 3) := by decide +kernel
theorem dX6_pourDroplets_63 : decode cX6_pourDroplets 63 = .ok (.iload 6, 2) := by decide +kernel
theorem dX6_pourDroplets_65 : decode cX6_pourDroplets 65 = .ok (.aload 4, 2) := by decide +kernel
theorem dX6_pourDroplets_67 : decode cX6_pourDroplets 67 = .ok (.aload_n 0, 1) := by decide +kernel
theorem dX6_pourDroplets_68 : decode cX6_pourDroplets 68 = .ok (.getfield 37, 3) := by decide +kernel
theorem dX6_pourDroplets_71 : decode cX6_pourDroplets 71 = .ok (.invokevirtual 177, 3) := by decide +kernel
theorem dX6_pourDroplets_74 : decode cX6_pourDroplets 74 = .ok (.iadd, 1) := by decide +kernel
theorem dX6_pourDroplets_75 : decode cX6_pourDroplets 75 = .ok (.istore 6, 2) := by decide +kernel
theorem dX6_pourDroplets_77 : decode cX6_pourDroplets 77 = .ok (.iinc 7 1, 3) := by decide +kernel
theorem dX6_pourDroplets_80 : decode cX6_pourDroplets 80 = .ok (.goto (-41), 3) := by decide +kernel
theorem dX6_pourDroplets_83 : decode cX6_pourDroplets 83 = .ok (.aload_n 0, 1) := by decide +kernel
theorem dX6_pourDroplets_84 : decode cX6_pourDroplets 84 = .ok (.getfield 10, 3) := by decide +kernel
theorem dX6_pourDroplets_87 : decode cX6_pourDroplets 87 = .ok (.dup, 1) := by decide +kernel
theorem dX6_pourDroplets_88 : decode cX6_pourDroplets 88 = .ok (.getfield 158, 3) := by decide +kernel
theorem dX6_pourDroplets_91 : decode cX6_pourDroplets 91 = .ok (.iload_n 3, 1) := by decide +kernel
theorem dX6_pourDroplets_92 : decode cX6_pourDroplets 92 = .ok (.iadd, 1) := by decide +kernel
theorem dX6_pourDroplets_93 : decode cX6_pourDroplets 93 = .ok (.putfield 158, 3) := by decide +kernel
theorem dX6_pourDroplets_96 : decode cX6_pourDroplets 96 = .ok (.iload 6, 2) := by decide +kernel
theorem dX6_pourDroplets_98 : decode cX6_pourDroplets 98 = .ok (.ireturn, 1) := by decide +kernel
theorem dX6_solveCup_0 : decode cX6_solveCup 0 = .ok (.aload_n 0, 1) := by decide +kernel
theorem dX6_solveCup_1 : decode cX6_solveCup 1 = .ok (.getfield 10, 3) := by decide +kernel
theorem dX6_solveCup_4 : decode cX6_solveCup 4 = .ok (.iload_n 1, 1) := by decide +kernel
theorem dX6_solveCup_5 : decode cX6_solveCup 5 = .ok (.invokevirtual 110, 3) := by decide +kernel
theorem dX6_solveCup_8 : decode cX6_solveCup 8 = .ok (.astore_n 2, 1) := by decide +kernel
theorem dX6_solveCup_9 : decode cX6_solveCup 9 = .ok (.aload_n 2, 1) := by decide +kernel
theorem dX6_solveCup_10 : decode cX6_solveCup 10 = .ok (.ifnonnull 5, 3) := by decide +kernel
theorem dX6_solveCup_13 : decode cX6_solveCup 13 = .ok (.iconst (-1), 1) := by decide +kernel
theorem dX6_solveCup_14 : decode cX6_solveCup 14 = .ok (.ireturn, 1) := by decide +kernel
theorem dX6_solveCup_15 : decode cX6_solveCup 15 = .ok (.aload_n 0, 1) := by decide +kernel
theorem dX6_solveCup_16 : decode cX6_solveCup 16 = .ok (.getfield 51, 3) := by decide +kernel
theorem dX6_solveCup_19 : decode cX6_solveCup 19 = .ok (.aload_n 2, 1) := by decide +kernel
theorem dX6_solveCup_20 : decode cX6_solveCup 20 = .ok (.invokevirtual 132, 3) := by decide +kernel
theorem dX6_solveCup_23 : decode cX6_solveCup 23 = .ok (.aload_n 2, 1) := by decide +kernel
theorem dX6_solveCup_24 : decode cX6_solveCup 24 = .ok (.aload_n 0, 1) := by decide +kernel
theorem dX6_solveCup_25 : decode cX6_solveCup 25 = .ok (.getfield 51, 3) := by decide +kernel
theorem dX6_solveCup_28 : decode cX6_solveCup 28 = .ok (.invokevirtual 226, 3) := by decide +kernel
theorem dX6_solveCup_31 : decode cX6_solveCup 31 = .ok (.ireturn, 1) := by decide +kernel
theorem dX6_errorOfDroplets_0 : decode cX6_errorOfDroplets 0 = .ok (.iload_n 1, 1) := by decide +kernel
theorem dX6_errorOfDroplets_1 : decode cX6_errorOfDroplets 1 = .ok (.iconst 0, 1) := by decide +kernel
theorem dX6_errorOfDroplets_2 : decode cX6_errorOfDroplets 2 = .ok (.ldc 84, 2) := by decide +kernel
theorem dX6_errorOfDroplets_4 : decode cX6_errorOfDroplets 4 = .ok (.invokestatic 85, 3) := by decide +kernel
theorem dX6_errorOfDroplets_7 : decode cX6_errorOfDroplets 7 = .ok (.ifCond .eq 13, 3) := by decide +kernel
theorem dX6_errorOfDroplets_10 : decode cX6_errorOfDroplets 10 = .ok (.iload_n 2, 1) := by decide +kernel
theorem dX6_errorOfDroplets_11 : decode cX6_errorOfDroplets 11 = .ok (.iconst 1, 1) := by decide +kernel
theorem dX6_errorOfDroplets_12 : decode cX6_errorOfDroplets 12 = .ok (.bipush 99, 2) := by decide +kernel
theorem dX6_errorOfDroplets_14 : decode cX6_errorOfDroplets 14 = .ok (.invokestatic 85, 3) := by decide +kernel
theorem dX6_errorOfDroplets_17 : decode cX6_errorOfDroplets 17 = .ok (.ifCond .ne 6, 3) := by decide +kernel
theorem dX6_errorOfDroplets_20 : decode cX6_errorOfDroplets 20 = .ok (.bipush (-2), 2) := by decide +kernel
theorem dX6_errorOfDroplets_22 : decode cX6_errorOfDroplets 22 = .ok (.ireturn, 1) := by decide +kernel
theorem dX6_errorOfDroplets_23 : decode cX6_errorOfDroplets 23 = .ok (.aload_n 0, 1) := by decide +kernel
theorem dX6_errorOfDroplets_24 : decode cX6_errorOfDroplets 24 = .ok (.getfield 10, 3) := by decide +kernel
theorem dX6_errorOfDroplets_27 : decode cX6_errorOfDroplets 27 = .ok (.getfield 89, 3) := by decide +kernel
theorem dX6_errorOfDroplets_30 : decode cX6_errorOfDroplets 30 = .ok (.ifCond .ne 8, 3) := by decide +kernel
theorem dX6_errorOfDroplets_33 : decode cX6_errorOfDroplets 33 = .ok (.bipush (-5), 2) := by decide +kernel
theorem dX6_errorOfDroplets_35 : decode cX6_errorOfDroplets 35 = .ok (.goto 4, 3) := by decide +kernel
theorem dX6_errorOfDroplets_38 : decode cX6_errorOfDroplets 38 = .ok (.iconst 0, 1) := by decide +kernel
theorem dX6_errorOfDroplets_39 : decode cX6_errorOfDroplets 39 = .ok (.ireturn, 1) := by decide +kernel
theorem dX6_isFull_0 : decode cX6_isFull 0 = .ok (.aload_n 1, 1) := by decide +kernel
theorem dX6_isFull_1 : decode cX6_isFull 1 = .ok (.getfield 114, 3) := by decide +kernel
theorem dX6_isFull_4 : decode cX6_isFull 4 = .ok (.aload_n 0, 1) := by decide +kernel
theorem dX6_isFull_5 : decode cX6_isFull 5 = .ok (.getfield 10, 3) := by decide +kernel
theorem dX6_isFull_8 : decode cX6_isFull 8 = .ok (.invokevirtual 241, 3) := by decide +kernel
theorem dX6_isFull_11 : decode cX6_isFull 11 = .ok (.if_icmp .ne 7, 3) := by decide +kernel
theorem dX6_isFull_14 : decode cX6_isFull 14 = .ok (.iconst 1, 1) := by decide +kernel
theorem dX6_isFull_15 : decode cX6_isFull 15 = .ok (.goto 4, 3) := by decide +kernel
theorem dX6_isFull_18 : decode cX6_isFull 18 = .ok (.iconst 0, 1) := by decide +kernel
theorem dX6_isFull_19 : decode cX6_isFull 19 = .ok (.ireturn, 1) := by decide +kernel
theorem dX6_fullCups_0 : decode cX6_fullCups 0 = .ok (.iconst 0, 1) := by decide +kernel
theorem dX6_fullCups_1 : decode cX6_fullCups 1 = .ok (.istore_n 1, 1) := by decide +kernel
theorem dX6_fullCups_2 : decode cX6_fullCups 2 = .ok (.iconst 0, 1) := by decide +kernel
theorem dX6_fullCups_3 : decode cX6_fullCups 3 = .ok (.istore_n 2, 1) := by decide +kernel
theorem dX6_fullCups_4 : decode cX6_fullCups 4 = .ok (.iload_n 2, 1) := by decide +kernel
theorem dX6_fullCups_5 : decode cX6_fullCups 5 = .ok (.iconst 3, 1) := by decide +kernel
theorem dX6_fullCups_6 : decode cX6_fullCups 6 = .ok (.if_icmp .ge 36, 3) := by decide +kernel
theorem dX6_fullCups_9 : decode cX6_fullCups 9 = .ok (.aload_n 0, 1) := by decide +kernel
theorem dX6_fullCups_10 : decode cX6_fullCups 10 = .ok (.getfield 10, 3) := by decide +kernel
theorem dX6_fullCups_13 : decode cX6_fullCups 13 = .ok (.iload_n 2, 1) := by decide +kernel
theorem dX6_fullCups_14 : decode cX6_fullCups 14 = .ok (.invokevirtual 110, 3) := by decide +kernel
theorem dX6_fullCups_17 : decode cX6_fullCups 17 = .ok (.astore_n 3, 1) := by decide +kernel
theorem dX6_fullCups_18 : decode cX6_fullCups 18 = .ok (.aload_n 3, 1) := by decide +kernel
theorem dX6_fullCups_19 : decode cX6_fullCups 19 = .ok (.ifnull 17, 3) := by decide +kernel
theorem dX6_fullCups_22 : decode cX6_fullCups 22 = .ok (.aload_n 0, 1) := by decide +kernel
theorem dX6_fullCups_23 : decode cX6_fullCups 23 = .ok (.aload_n 3, 1) := by decide +kernel
theorem dX6_fullCups_24 : decode cX6_fullCups 24 = .ok (.invokevirtual 128, 3) := by decide +kernel
theorem dX6_fullCups_27 : decode cX6_fullCups 27 = .ok (.ifCond .eq 9, 3) := by decide +kernel
theorem dX6_fullCups_30 : decode cX6_fullCups 30 = .ok (.iload_n 1, 1) := by decide +kernel
theorem dX6_fullCups_31 : decode cX6_fullCups 31 = .ok (.iconst 1, 1) := by decide +kernel
theorem dX6_fullCups_32 : decode cX6_fullCups 32 = .ok (.iload_n 2, 1) := by decide +kernel
theorem dX6_fullCups_33 : decode cX6_fullCups 33 = .ok (.ishl, 1) := by decide +kernel
theorem dX6_fullCups_34 : decode cX6_fullCups 34 = .ok (.ior, 1) := by decide +kernel
theorem dX6_fullCups_35 : decode cX6_fullCups 35 = .ok (.istore_n 1, 1) := by decide +kernel
theorem dX6_fullCups_36 : decode cX6_fullCups 36 = .ok (.iinc 2 1, 3) := by decide +kernel
theorem dX6_fullCups_39 : decode cX6_fullCups 39 = .ok (.goto (-35), 3) := by decide +kernel
theorem dX6_fullCups_42 : decode cX6_fullCups 42 = .ok (.iload_n 1, 1) := by decide +kernel
theorem dX6_fullCups_43 : decode cX6_fullCups 43 = .ok (.ireturn, 1) := by decide +kernel
theorem dX6_isWithin_0 : decode cX6_isWithin 0 = .ok (.iload_n 0, 1) := by decide +kernel
theorem dX6_isWithin_1 : decode cX6_isWithin 1 = .ok (.iload_n 1, 1) := by decide +kernel
theorem dX6_isWithin_2 : decode cX6_isWithin 2 = .ok (.if_icmp .lt 12, 3) := by decide +kernel
theorem dX6_isWithin_5 : decode cX6_isWithin 5 = .ok (.iload_n 0, 1) := by decide +kernel
theorem dX6_isWithin_6 : decode cX6_isWithin 6 = .ok (.iload_n 2, 1) := by decide +kernel
theorem dX6_isWithin_7 : decode cX6_isWithin 7 = .ok (.if_icmp .gt 7, 3) := by decide +kernel
theorem dX6_isWithin_10 : decode cX6_isWithin 10 = .ok (.iconst 1, 1) := by decide +kernel
theorem dX6_isWithin_11 : decode cX6_isWithin 11 = .ok (.goto 4, 3) := by decide +kernel
theorem dX6_isWithin_14 : decode cX6_isWithin 14 = .ok (.iconst 0, 1) := by decide +kernel
theorem dX6_isWithin_15 : decode cX6_isWithin 15 = .ok (.ireturn, 1) := by decide +kernel
theorem dX6_wrappedSeed_0 : decode cX6_wrappedSeed 0 = .ok (.iload_n 0, 1) := by decide +kernel
theorem dX6_wrappedSeed_1 : decode cX6_wrappedSeed 1 = .ok (.ldc 84, 2) := by decide +kernel
theorem dX6_wrappedSeed_3 : decode cX6_wrappedSeed 3 = .ok (.iand, 1) := by decide +kernel
theorem dX6_wrappedSeed_4 : decode cX6_wrappedSeed 4 = .ok (.ireturn, 1) := by decide +kernel
theorem dJ6_bitCount_0f7a4_0 : decode cJ6_bitCount_0f7a4 0 = .ok (.iload_n 0, 1) := by decide +kernel
theorem dJ6_bitCount_0f7a4_1 : decode cJ6_bitCount_0f7a4 1 = .ok (.iload_n 0, 1) := by decide +kernel
theorem dJ6_bitCount_0f7a4_2 : decode cJ6_bitCount_0f7a4 2 = .ok (.iconst 1, 1) := by decide +kernel
theorem dJ6_bitCount_0f7a4_3 : decode cJ6_bitCount_0f7a4 3 = .ok (.iushr, 1) := by decide +kernel
theorem dJ6_bitCount_0f7a4_4 : decode cJ6_bitCount_0f7a4 4 = .ok (.ldc_w 265, 3) := by decide +kernel
theorem dJ6_bitCount_0f7a4_7 : decode cJ6_bitCount_0f7a4 7 = .ok (.iand, 1) := by decide +kernel
theorem dJ6_bitCount_0f7a4_8 : decode cJ6_bitCount_0f7a4 8 = .ok (.isub, 1) := by decide +kernel
theorem dJ6_bitCount_0f7a4_9 : decode cJ6_bitCount_0f7a4 9 = .ok (.istore_n 0, 1) := by decide +kernel
theorem dJ6_bitCount_0f7a4_10 : decode cJ6_bitCount_0f7a4 10 = .ok (.iload_n 0, 1) := by decide +kernel
theorem dJ6_bitCount_0f7a4_11 : decode cJ6_bitCount_0f7a4 11 = .ok (.ldc_w 266, 3) := by decide +kernel
theorem dJ6_bitCount_0f7a4_14 : decode cJ6_bitCount_0f7a4 14 = .ok (.iand, 1) := by decide +kernel
theorem dJ6_bitCount_0f7a4_15 : decode cJ6_bitCount_0f7a4 15 = .ok (.iload_n 0, 1) := by decide +kernel
theorem dJ6_bitCount_0f7a4_16 : decode cJ6_bitCount_0f7a4 16 = .ok (.iconst 2, 1) := by decide +kernel
theorem dJ6_bitCount_0f7a4_17 : decode cJ6_bitCount_0f7a4 17 = .ok (.iushr, 1) := by decide +kernel
theorem dJ6_bitCount_0f7a4_18 : decode cJ6_bitCount_0f7a4 18 = .ok (.ldc_w 266, 3) := by decide +kernel
theorem dJ6_bitCount_0f7a4_21 : decode cJ6_bitCount_0f7a4 21 = .ok (.iand, 1) := by decide +kernel
theorem dJ6_bitCount_0f7a4_22 : decode cJ6_bitCount_0f7a4 22 = .ok (.iadd, 1) := by decide +kernel
theorem dJ6_bitCount_0f7a4_23 : decode cJ6_bitCount_0f7a4 23 = .ok (.istore_n 0, 1) := by decide +kernel
theorem dJ6_bitCount_0f7a4_24 : decode cJ6_bitCount_0f7a4 24 = .ok (.iload_n 0, 1) := by decide +kernel
theorem dJ6_bitCount_0f7a4_25 : decode cJ6_bitCount_0f7a4 25 = .ok (.iload_n 0, 1) := by decide +kernel
theorem dJ6_bitCount_0f7a4_26 : decode cJ6_bitCount_0f7a4 26 = .ok (.iconst 4, 1) := by decide +kernel
theorem dJ6_bitCount_0f7a4_27 : decode cJ6_bitCount_0f7a4 27 = .ok (.iushr, 1) := by decide +kernel
theorem dJ6_bitCount_0f7a4_28 : decode cJ6_bitCount_0f7a4 28 = .ok (.iadd, 1) := by decide +kernel
theorem dJ6_bitCount_0f7a4_29 : decode cJ6_bitCount_0f7a4 29 = .ok (.ldc_w 267, 3) := by decide +kernel
theorem dJ6_bitCount_0f7a4_32 : decode cJ6_bitCount_0f7a4 32 = .ok (.iand, 1) := by decide +kernel
theorem dJ6_bitCount_0f7a4_33 : decode cJ6_bitCount_0f7a4 33 = .ok (.istore_n 0, 1) := by decide +kernel
theorem dJ6_bitCount_0f7a4_34 : decode cJ6_bitCount_0f7a4 34 = .ok (.iload_n 0, 1) := by decide +kernel
theorem dJ6_bitCount_0f7a4_35 : decode cJ6_bitCount_0f7a4 35 = .ok (.iload_n 0, 1) := by decide +kernel
theorem dJ6_bitCount_0f7a4_36 : decode cJ6_bitCount_0f7a4 36 = .ok (.bipush 8, 2) := by decide +kernel
theorem dJ6_bitCount_0f7a4_38 : decode cJ6_bitCount_0f7a4 38 = .ok (.iushr, 1) := by decide +kernel
theorem dJ6_bitCount_0f7a4_39 : decode cJ6_bitCount_0f7a4 39 = .ok (.iadd, 1) := by decide +kernel
theorem dJ6_bitCount_0f7a4_40 : decode cJ6_bitCount_0f7a4 40 = .ok (.istore_n 0, 1) := by decide +kernel
theorem dJ6_bitCount_0f7a4_41 : decode cJ6_bitCount_0f7a4 41 = .ok (.iload_n 0, 1) := by decide +kernel
theorem dJ6_bitCount_0f7a4_42 : decode cJ6_bitCount_0f7a4 42 = .ok (.iload_n 0, 1) := by decide +kernel
theorem dJ6_bitCount_0f7a4_43 : decode cJ6_bitCount_0f7a4 43 = .ok (.bipush 16, 2) := by decide +kernel
theorem dJ6_bitCount_0f7a4_45 : decode cJ6_bitCount_0f7a4 45 = .ok (.iushr, 1) := by decide +kernel
theorem dJ6_bitCount_0f7a4_46 : decode cJ6_bitCount_0f7a4 46 = .ok (.iadd, 1) := by decide +kernel
theorem dJ6_bitCount_0f7a4_47 : decode cJ6_bitCount_0f7a4 47 = .ok (.istore_n 0, 1) := by decide +kernel
theorem dJ6_bitCount_0f7a4_48 : decode cJ6_bitCount_0f7a4 48 = .ok (.iload_n 0, 1) := by decide +kernel
theorem dJ6_bitCount_0f7a4_49 : decode cJ6_bitCount_0f7a4 49 = .ok (.bipush 63, 2) := by decide +kernel
theorem dJ6_bitCount_0f7a4_51 : decode cJ6_bitCount_0f7a4 51 = .ok (.iand, 1) := by decide +kernel
theorem dJ6_bitCount_0f7a4_52 : decode cJ6_bitCount_0f7a4 52 = .ok (.ireturn, 1) := by decide +kernel
theorem dJ9_floorMod_7cf53_0 : decode cJ9_floorMod_7cf53 0 = .ok (.iload_n 0, 1) := by decide +kernel
theorem dJ9_floorMod_7cf53_1 : decode cJ9_floorMod_7cf53 1 = .ok (.iload_n 1, 1) := by decide +kernel
theorem dJ9_floorMod_7cf53_2 : decode cJ9_floorMod_7cf53 2 = .ok (.irem, 1) := by decide +kernel
theorem dJ9_floorMod_7cf53_3 : decode cJ9_floorMod_7cf53 3 = .ok (.istore_n 2, 1) := by decide +kernel
theorem dJ9_floorMod_7cf53_4 : decode cJ9_floorMod_7cf53 4 = .ok (.iload_n 0, 1) := by decide +kernel
theorem dJ9_floorMod_7cf53_5 : decode cJ9_floorMod_7cf53 5 = .ok (.iload_n 1, 1) := by decide +kernel
theorem dJ9_floorMod_7cf53_6 : decode cJ9_floorMod_7cf53 6 = .ok (.ixor, 1) := by decide +kernel
theorem dJ9_floorMod_7cf53_7 : decode cJ9_floorMod_7cf53 7 = .ok (.ifCond .ge 11, 3) := by decide +kernel
theorem dJ9_floorMod_7cf53_10 : decode cJ9_floorMod_7cf53 10 = .ok (.iload_n 2, 1) := by decide +kernel
theorem dJ9_floorMod_7cf53_11 : decode cJ9_floorMod_7cf53 11 = .ok (.ifCond .eq 7, 3) := by decide +kernel
theorem dJ9_floorMod_7cf53_14 : decode cJ9_floorMod_7cf53 14 = .ok (.iload_n 2, 1) := by decide +kernel
theorem dJ9_floorMod_7cf53_15 : decode cJ9_floorMod_7cf53 15 = .ok (.iload_n 1, 1) := by decide +kernel
theorem dJ9_floorMod_7cf53_16 : decode cJ9_floorMod_7cf53 16 = .ok (.iadd, 1) := by decide +kernel
theorem dJ9_floorMod_7cf53_17 : decode cJ9_floorMod_7cf53 17 = .ok (.ireturn, 1) := by decide +kernel
theorem dJ9_floorMod_7cf53_18 : decode cJ9_floorMod_7cf53 18 = .ok (.iload_n 2, 1) := by decide +kernel
theorem dJ9_floorMod_7cf53_19 : decode cJ9_floorMod_7cf53 19 = .ok (.ireturn, 1) := by decide +kernel
