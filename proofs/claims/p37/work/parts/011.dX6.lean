theorem dX6_init_0 : decode cX6_init 0 = .ok (.aload_n 0, 1) := by decide +kernel
theorem dX6_init_1 : decode cX6_init 1 = .ok (.invokespecial 3, 3) := by decide +kernel
theorem dX6_init_4 : decode cX6_init 4 = .ok (.aload_n 0, 1) := by decide +kernel
theorem dX6_init_5 : decode cX6_init 5 = .ok (.new 9, 3) := by decide +kernel
theorem dX6_init_8 : decode cX6_init 8 = .ok (.dup, 1) := by decide +kernel
theorem dX6_init_9 : decode cX6_init 9 = .ok (.invokespecial 11, 3) := by decide +kernel
theorem dX6_init_12 : decode cX6_init 12 = .ok (.putfield 12, 3) := by decide +kernel
theorem dX6_init_15 : decode cX6_init 15 = .ok (.aload_n 0, 1) := by decide +kernel
theorem dX6_init_16 : decode cX6_init 16 = .ok (.new 18, 3) := by decide +kernel
theorem dX6_init_19 : decode cX6_init 19 = .ok (.dup, 1) := by decide +kernel
theorem dX6_init_20 : decode cX6_init 20 = .ok (.invokespecial 20, 3) := by decide +kernel
theorem dX6_init_23 : decode cX6_init 23 = .ok (.putfield 21, 3) := by decide +kernel
theorem dX6_init_26 : decode cX6_init 26 = .ok (.aload_n 0, 1) := by decide +kernel
theorem dX6_init_27 : decode cX6_init 27 = .ok (.new 25, 3) := by decide +kernel
theorem dX6_init_30 : decode cX6_init 30 = .ok (.dup, 1) := by decide +kernel
theorem dX6_init_31 : decode cX6_init 31 = .ok (.iconst 4, 1) := by decide +kernel
theorem dX6_init_32 : decode cX6_init 32 = .ok (.invokespecial 27, 3) := by decide +kernel
theorem dX6_init_35 : decode cX6_init 35 = .ok (.putfield 30, 3) := by decide +kernel
theorem dX6_init_38 : decode cX6_init 38 = .ok (.aload_n 0, 1) := by decide +kernel
theorem dX6_init_39 : decode cX6_init 39 = .ok (.new 25, 3) := by decide +kernel
theorem dX6_init_42 : decode cX6_init 42 = .ok (.dup, 1) := by decide +kernel
theorem dX6_init_43 : decode cX6_init 43 = .ok (.iconst 4, 1) := by decide +kernel
theorem dX6_init_44 : decode cX6_init 44 = .ok (.invokespecial 27, 3) := by decide +kernel
theorem dX6_init_47 : decode cX6_init 47 = .ok (.putfield 34, 3) := by decide +kernel
theorem dX6_init_50 : decode cX6_init 50 = .ok (.aload_n 0, 1) := by decide +kernel
theorem dX6_init_51 : decode cX6_init 51 = .ok (.new 25, 3) := by decide +kernel
theorem dX6_init_54 : decode cX6_init 54 = .ok (.dup, 1) := by decide +kernel
theorem dX6_init_55 : decode cX6_init 55 = .ok (.iconst 4, 1) := by decide +kernel
theorem dX6_init_56 : decode cX6_init 56 = .ok (.invokespecial 27, 3) := by decide +kernel
theorem dX6_init_59 : decode cX6_init 59 = .ok (.putfield 37, 3) := by decide +kernel
theorem dX6_init_62 : decode cX6_init 62 = .ok (.aload_n 0, 1) := by decide +kernel
theorem dX6_init_63 : decode cX6_init 63 = .ok (.new 25, 3) := by decide +kernel
theorem dX6_init_66 : decode cX6_init 66 = .ok (.dup, 1) := by decide +kernel
theorem dX6_init_67 : decode cX6_init 67 = .ok (.iconst 4, 1) := by decide +kernel
theorem dX6_init_68 : decode cX6_init 68 = .ok (.invokespecial 27, 3) := by decide +kernel
theorem dX6_init_71 : decode cX6_init 71 = .ok (.putfield 40, 3) := by decide +kernel
theorem dX6_init_74 : decode cX6_init 74 = .ok (.return_, 1) := by decide +kernel
theorem dX6_load_0 : decode cX6_load 0 = .ok (.aload_n 0, 1) := by decide +kernel
theorem dX6_load_1 : decode cX6_load 1 = .ok (.getfield 12, 3) := by decide +kernel
theorem dX6_load_4 : decode cX6_load 4 = .ok (.aload_n 1, 1) := by decide +kernel
theorem dX6_load_5 : decode cX6_load 5 = .ok (.aload_n 3, 1) := by decide +kernel
theorem dX6_load_6 : decode cX6_load 6 = .ok (.invokevirtual 43, 3) := by decide +kernel
theorem dX6_load_9 : decode cX6_load 9 = .ok (.aload_n 0, 1) := by decide +kernel
theorem dX6_load_10 : decode cX6_load 10 = .ok (.getfield 21, 3) := by decide +kernel
theorem dX6_load_13 : decode cX6_load 13 = .ok (.aload_n 1, 1) := by decide +kernel
theorem dX6_load_14 : decode cX6_load 14 = .ok (.aload_n 2, 1) := by decide +kernel
theorem dX6_load_15 : decode cX6_load 15 = .ok (.invokevirtual 47, 3) := by decide +kernel
theorem dX6_load_18 : decode cX6_load 18 = .ok (.aload_n 0, 1) := by decide +kernel
theorem dX6_load_19 : decode cX6_load 19 = .ok (.getfield 30, 3) := by decide +kernel
theorem dX6_load_22 : decode cX6_load 22 = .ok (.invokevirtual 50, 3) := by decide +kernel
theorem dX6_load_25 : decode cX6_load 25 = .ok (.iconst 0, 1) := by decide +kernel
theorem dX6_load_26 : decode cX6_load 26 = .ok (.istore 4, 2) := by decide +kernel
theorem dX6_load_28 : decode cX6_load 28 = .ok (.iload 4, 2) := by decide +kernel
theorem dX6_load_30 : decode cX6_load 30 = .ok (.aload_n 1, 1) := by decide +kernel
theorem dX6_load_31 : decode cX6_load 31 = .ok (.invokevirtual 53, 3) := by decide +kernel
theorem dX6_load_34 : decode cX6_load 34 = .ok (.if_icmp .ge 22, 3) := by decide +kernel
theorem dX6_load_37 : decode cX6_load 37 = .ok (.aload_n 0, 1) := by decide +kernel
theorem dX6_load_38 : decode cX6_load 38 = .ok (.getfield 30, 3) := by decide +kernel
theorem dX6_load_41 : decode cX6_load 41 = .ok (.aload_n 1, 1) := by decide +kernel
theorem dX6_load_42 : decode cX6_load 42 = .ok (.iload 4, 2) := by decide +kernel
theorem dX6_load_44 : decode cX6_load 44 = .ok (.invokevirtual 59, 3) := by decide +kernel
theorem dX6_load_47 : decode cX6_load 47 = .ok (.invokevirtual 63, 3) := by decide +kernel
theorem dX6_load_50 : decode cX6_load 50 = .ok (.iinc 4 1, 3) := by decide +kernel
theorem dX6_load_53 : decode cX6_load 53 = .ok (.goto (-25), 3) := by decide +kernel
theorem dX6_load_56 : decode cX6_load 56 = .ok (.return_, 1) := by decide +kernel
theorem dX6_loadWishes_0 : decode cX6_loadWishes 0 = .ok (.aload_n 0, 1) := by decide +kernel
theorem dX6_loadWishes_1 : decode cX6_loadWishes 1 = .ok (.getfield 21, 3) := by decide +kernel
theorem dX6_loadWishes_4 : decode cX6_loadWishes 4 = .ok (.aload_n 1, 1) := by decide +kernel
theorem dX6_loadWishes_5 : decode cX6_loadWishes 5 = .ok (.iload_n 2, 1) := by decide +kernel
theorem dX6_loadWishes_6 : decode cX6_loadWishes 6 = .ok (.invokevirtual 66, 3) := by decide +kernel
theorem dX6_loadWishes_9 : decode cX6_loadWishes 9 = .ok (.return_, 1) := by decide +kernel
theorem dX6_foundStrength_0 : decode cX6_foundStrength 0 = .ok (.aload_n 0, 1) := by decide +kernel
theorem dX6_foundStrength_1 : decode cX6_foundStrength 1 = .ok (.getfield 70, 3) := by decide +kernel
theorem dX6_foundStrength_4 : decode cX6_foundStrength 4 = .ok (.ireturn, 1) := by decide +kernel
theorem dX6_foundCost_0 : decode cX6_foundCost 0 = .ok (.aload_n 0, 1) := by decide +kernel
theorem dX6_foundCost_1 : decode cX6_foundCost 1 = .ok (.getfield 74, 3) := by decide +kernel
theorem dX6_foundCost_4 : decode cX6_foundCost 4 = .ok (.ireturn, 1) := by decide +kernel
theorem dX6_foundStart_0 : decode cX6_foundStart 0 = .ok (.aload_n 0, 1) := by decide +kernel
theorem dX6_foundStart_1 : decode cX6_foundStart 1 = .ok (.getfield 40, 3) := by decide +kernel
theorem dX6_foundStart_4 : decode cX6_foundStart 4 = .ok (.iload_n 1, 1) := by decide +kernel
theorem dX6_foundStart_5 : decode cX6_foundStart 5 = .ok (.invokevirtual 77, 3) := by decide +kernel
theorem dX6_foundStart_8 : decode cX6_foundStart 8 = .ok (.ireturn, 1) := by decide +kernel
theorem dX6_searchTidiest_0 : decode cX6_searchTidiest 0 = .ok (.aload_n 0, 1) := by decide +kernel
theorem dX6_searchTidiest_1 : decode cX6_searchTidiest 1 = .ok (.aload_n 0, 1) := by decide +kernel
theorem dX6_searchTidiest_2 : decode cX6_searchTidiest 2 = .ok (.getfield 30, 3) := by decide +kernel
theorem dX6_searchTidiest_5 : decode cX6_searchTidiest 5 = .ok (.aload_n 0, 1) := by decide +kernel
theorem dX6_searchTidiest_6 : decode cX6_searchTidiest 6 = .ok (.getfield 21, 3) := by decide +kernel
theorem dX6_searchTidiest_9 : decode cX6_searchTidiest 9 = .ok (.aload_n 0, 1) := by decide +kernel
theorem dX6_searchTidiest_10 : decode cX6_searchTidiest 10 = .ok (.getfield 30, 3) := by decide +kernel
theorem dX6_searchTidiest_13 : decode cX6_searchTidiest 13 = .ok (.iconst 0, 1) := by decide +kernel
theorem dX6_searchTidiest_14 : decode cX6_searchTidiest 14 = .ok (.iconst 4, 1) := by decide +kernel
theorem dX6_searchTidiest_15 : decode cX6_searchTidiest 15 = .ok (.invokevirtual 80, 3) := by decide +kernel
theorem dX6_searchTidiest_18 : decode cX6_searchTidiest 18 = .ok (.iconst 0, 1) := by decide +kernel
theorem dX6_searchTidiest_19 : decode cX6_searchTidiest 19 = .ok (.invokevirtual 84, 3) := by decide +kernel
theorem dX6_searchTidiest_22 : decode cX6_searchTidiest 22 = .ok (.aload_n 0, 1) := by decide +kernel
theorem dX6_searchTidiest_23 : decode cX6_searchTidiest 23 = .ok (.iconst 0, 1) := by decide +kernel
theorem dX6_searchTidiest_24 : decode cX6_searchTidiest 24 = .ok (.iconst 0, 1) := by decide +kernel
theorem dX6_searchTidiest_25 : decode cX6_searchTidiest 25 = .ok (.iconst 0, 1) := by decide +kernel
theorem dX6_searchTidiest_26 : decode cX6_searchTidiest 26 = .ok (.invokevirtual 88, 3) := by decide +kernel
theorem dX6_searchTidiest_29 : decode cX6_searchTidiest 29 = .ok (.return_, 1) := by decide +kernel
theorem dX6_placeFrom_0 : decode cX6_placeFrom 0 = .ok (.aload_n 0, 1) := by decide +kernel
theorem dX6_placeFrom_1 : decode cX6_placeFrom 1 = .ok (.iload_n 2, 1) := by decide +kernel
theorem dX6_placeFrom_2 : decode cX6_placeFrom 2 = .ok (.aload_n 0, 1) := by decide +kernel
theorem dX6_placeFrom_3 : decode cX6_placeFrom 3 = .ok (.getfield 21, 3) := by decide +kernel
theorem dX6_placeFrom_6 : decode cX6_placeFrom 6 = .ok (.iload_n 1, 1) := by decide +kernel
theorem dX6_placeFrom_7 : decode cX6_placeFrom 7 = .ok (.invokevirtual 92, 3) := by decide +kernel
theorem dX6_placeFrom_10 : decode cX6_placeFrom 10 = .ok (.iadd, 1) := by decide +kernel
theorem dX6_placeFrom_11 : decode cX6_placeFrom 11 = .ok (.iload_n 3, 1) := by decide +kernel
theorem dX6_placeFrom_12 : decode cX6_placeFrom 12 = .ok (.invokevirtual 95, 3) := by decide +kernel
theorem dX6_placeFrom_15 : decode cX6_placeFrom 15 = .ok (.ifCond .ne 4, 3) := by decide +kernel
theorem dX6_placeFrom_18 : decode cX6_placeFrom 18 = .ok (.return_, 1) := by decide +kernel
theorem dX6_placeFrom_19 : decode cX6_placeFrom 19 = .ok (.iload_n 1, 1) := by decide +kernel
theorem dX6_placeFrom_20 : decode cX6_placeFrom 20 = .ok (.aload_n 0, 1) := by decide +kernel
theorem dX6_placeFrom_21 : decode cX6_placeFrom 21 = .ok (.getfield 30, 3) := by decide +kernel
theorem dX6_placeFrom_24 : decode cX6_placeFrom 24 = .ok (.invokevirtual 99, 3) := by decide +kernel
theorem dX6_placeFrom_27 : decode cX6_placeFrom 27 = .ok (.if_icmp .ge 8, 3) := by decide +kernel
theorem dX6_placeFrom_30 : decode cX6_placeFrom 30 = .ok (.iload_n 1, 1) := by decide +kernel
theorem dX6_placeFrom_31 : decode cX6_placeFrom 31 = .ok (.iconst 4, 1) := by decide +kernel
theorem dX6_placeFrom_32 : decode cX6_placeFrom 32 = .ok (.if_icmp .lt 14, 3) := by decide +kernel
theorem dX6_placeFrom_35 : decode cX6_placeFrom 35 = .ok (.aload_n 0, 1) := by decide +kernel
theorem dX6_placeFrom_36 : decode cX6_placeFrom 36 = .ok (.aload_n 0, 1) := by decide +kernel
theorem dX6_placeFrom_37 : decode cX6_placeFrom 37 = .ok (.getfield 34, 3) := by decide +kernel
theorem dX6_placeFrom_40 : decode cX6_placeFrom 40 = .ok (.iload_n 2, 1) := by decide +kernel
theorem dX6_placeFrom_41 : decode cX6_placeFrom 41 = .ok (.iload_n 3, 1) := by decide +kernel
theorem dX6_placeFrom_42 : decode cX6_placeFrom 42 = .ok (.invokevirtual 84, 3) := by decide +kernel
theorem dX6_placeFrom_45 : decode cX6_placeFrom 45 = .ok (.return_, 1) := by decide +kernel
theorem dX6_placeFrom_46 : decode cX6_placeFrom 46 = .ok (.iconst 0, 1) := by decide +kernel
theorem dX6_placeFrom_47 : decode cX6_placeFrom 47 = .ok (.istore 4, 2) := by decide +kernel
theorem dX6_placeFrom_49 : decode cX6_placeFrom 49 = .ok (.iload 4, 2) := by decide +kernel
theorem dX6_placeFrom_51 : decode cX6_placeFrom 51 = .ok (.aload_n 0, 1) := by decide +kernel
theorem dX6_placeFrom_52 : decode cX6_placeFrom 52 = .ok (.getfield 12, 3) := by decide +kernel
theorem dX6_placeFrom_55 : decode cX6_placeFrom 55 = .ok (.iload_n 1, 1) := by decide +kernel
theorem dX6_placeFrom_56 : decode cX6_placeFrom 56 = .ok (.invokevirtual 102, 3) := by decide +kernel
theorem dX6_placeFrom_59 : decode cX6_placeFrom 59 = .ok (.if_icmp .ge 26, 3) := by decide +kernel
theorem dX6_placeFrom_62 : decode cX6_placeFrom 62 = .ok (.aload_n 0, 1) := by decide +kernel
theorem dX6_placeFrom_63 : decode cX6_placeFrom 63 = .ok (.iload_n 1, 1) := by decide +kernel
theorem dX6_placeFrom_64 : decode cX6_placeFrom 64 = .ok (.aload_n 0, 1) := by decide +kernel
theorem dX6_placeFrom_65 : decode cX6_placeFrom 65 = .ok (.getfield 12, 3) := by decide +kernel
theorem dX6_placeFrom_68 : decode cX6_placeFrom 68 = .ok (.iload_n 1, 1) := by decide +kernel
theorem dX6_placeFrom_69 : decode cX6_placeFrom 69 = .ok (.iload 4, 2) := by decide +kernel
theorem dX6_placeFrom_71 : decode cX6_placeFrom 71 = .ok (.invokevirtual 104, 3) := by decide +kernel
theorem dX6_placeFrom_74 : decode cX6_placeFrom 74 = .ok (.iload_n 2, 1) := by decide +kernel
theorem dX6_placeFrom_75 : decode cX6_placeFrom 75 = .ok (.iload_n 3, 1) := by decide +kernel
theorem dX6_placeFrom_76 : decode cX6_placeFrom 76 = .ok (.invokevirtual 108, 3) := by decide +kernel
theorem dX6_placeFrom_79 : decode cX6_placeFrom 79 = .ok (.iinc 4 1, 3) := by decide +kernel
theorem dX6_placeFrom_82 : decode cX6_placeFrom 82 = .ok (.goto (-33), 3) := by decide +kernel
theorem dX6_placeFrom_85 : decode cX6_placeFrom 85 = .ok (.return_, 1) := by decide +kernel
theorem dX6_placeAt_0 : decode cX6_placeAt 0 = .ok (.aload_n 0, 1) := by decide +kernel
theorem dX6_placeAt_1 : decode cX6_placeAt 1 = .ok (.getfield 34, 3) := by decide +kernel
theorem dX6_placeAt_4 : decode cX6_placeAt 4 = .ok (.iload_n 1, 1) := by decide +kernel
theorem dX6_placeAt_5 : decode cX6_placeAt 5 = .ok (.iload_n 2, 1) := by decide +kernel
theorem dX6_placeAt_6 : decode cX6_placeAt 6 = .ok (.invokevirtual 112, 3) := by decide +kernel
theorem dX6_placeAt_9 : decode cX6_placeAt 9 = .ok (.aload_n 0, 1) := by decide +kernel
theorem dX6_placeAt_10 : decode cX6_placeAt 10 = .ok (.getfield 21, 3) := by decide +kernel
theorem dX6_placeAt_13 : decode cX6_placeAt 13 = .ok (.aload_n 0, 1) := by decide +kernel
theorem dX6_placeAt_14 : decode cX6_placeAt 14 = .ok (.getfield 34, 3) := by decide +kernel
theorem dX6_placeAt_17 : decode cX6_placeAt 17 = .ok (.iload_n 1, 1) := by decide +kernel
theorem dX6_placeAt_18 : decode cX6_placeAt 18 = .ok (.iload_n 1, 1) := by decide +kernel
theorem dX6_placeAt_19 : decode cX6_placeAt 19 = .ok (.invokevirtual 116, 3) := by decide +kernel
theorem dX6_placeAt_22 : decode cX6_placeAt 22 = .ok (.ifCond .eq 41, 3) := by decide +kernel
theorem dX6_placeAt_25 : decode cX6_placeAt 25 = .ok (.aload_n 0, 1) := by decide +kernel
theorem dX6_placeAt_26 : decode cX6_placeAt 26 = .ok (.iload_n 1, 1) := by decide +kernel
theorem dX6_placeAt_27 : decode cX6_placeAt 27 = .ok (.iconst 1, 1) := by decide +kernel
theorem dX6_placeAt_28 : decode cX6_placeAt 28 = .ok (.iadd, 1) := by decide +kernel
theorem dX6_placeAt_29 : decode cX6_placeAt 29 = .ok (.iload_n 3, 1) := by decide +kernel
theorem dX6_placeAt_30 : decode cX6_placeAt 30 = .ok (.aload_n 0, 1) := by decide +kernel
theorem dX6_placeAt_31 : decode cX6_placeAt 31 = .ok (.getfield 21, 3) := by decide +kernel
theorem dX6_placeAt_34 : decode cX6_placeAt 34 = .ok (.aload_n 0, 1) := by decide +kernel
theorem dX6_placeAt_35 : decode cX6_placeAt 35 = .ok (.getfield 34, 3) := by decide +kernel
theorem dX6_placeAt_38 : decode cX6_placeAt 38 = .ok (.iload_n 1, 1) := by decide +kernel
theorem dX6_placeAt_39 : decode cX6_placeAt 39 = .ok (.iload_n 1, 1) := by decide +kernel
theorem dX6_placeAt_40 : decode cX6_placeAt 40 = .ok (.invokevirtual 80, 3) := by decide +kernel
theorem dX6_placeAt_43 : decode cX6_placeAt 43 = .ok (.iadd, 1) := by decide +kernel
theorem dX6_placeAt_44 : decode cX6_placeAt 44 = .ok (.iload 4, 2) := by decide +kernel
theorem dX6_placeAt_46 : decode cX6_placeAt 46 = .ok (.iload_n 2, 1) := by decide +kernel
theorem dX6_placeAt_47 : decode cX6_placeAt 47 = .ok (.aload_n 0, 1) := by decide +kernel
theorem dX6_placeAt_48 : decode cX6_placeAt 48 = .ok (.getfield 30, 3) := by decide +kernel
theorem dX6_placeAt_51 : decode cX6_placeAt 51 = .ok (.iload_n 1, 1) := by decide +kernel
theorem dX6_placeAt_52 : decode cX6_placeAt 52 = .ok (.invokevirtual 77, 3) := by decide +kernel
theorem dX6_placeAt_55 : decode cX6_placeAt 55 = .ok (.isub, 1) := by decide +kernel
theorem dX6_placeAt_56 : decode cX6_placeAt 56 = .ok (.invokestatic 120, 3) := by decide +kernel
theorem dX6_placeAt_59 : decode cX6_placeAt 59 = .ok (.iadd, 1) := by decide +kernel
theorem dX6_placeAt_60 : decode cX6_placeAt 60 = .ok (.invokevirtual 88, 3) := by decide +kernel
theorem dX6_placeAt_63 : decode cX6_placeAt 63 = .ok (.return_, 1) := by decide +kernel
theorem dX6_isTidier_0 : decode cX6_isTidier 0 = .ok (.iload_n 1, 1) := by decide +kernel
theorem dX6_isTidier_1 : decode cX6_isTidier 1 = .ok (.aload_n 0, 1) := by decide +kernel
theorem dX6_isTidier_2 : decode cX6_isTidier 2 = .ok (.getfield 70, 3) := by decide +kernel
theorem dX6_isTidier_5 : decode cX6_isTidier 5 = .ok (.if_icmp .gt 19, 3) := by decide +kernel
theorem dX6_isTidier_8 : decode cX6_isTidier 8 = .ok (.iload_n 1, 1) := by decide +kernel
theorem dX6_isTidier_9 : decode cX6_isTidier 9 = .ok (.aload_n 0, 1) := by decide +kernel
theorem dX6_isTidier_10 : decode cX6_isTidier 10 = .ok (.getfield 70, 3) := by decide +kernel
theorem dX6_isTidier_13 : decode cX6_isTidier 13 = .ok (.if_icmp .ne 15, 3) := by decide +kernel
theorem dX6_isTidier_16 : decode cX6_isTidier 16 = .ok (.iload_n 2, 1) := by decide +kernel
theorem dX6_isTidier_17 : decode cX6_isTidier 17 = .ok (.aload_n 0, 1) := by decide +kernel
theorem dX6_isTidier_18 : decode cX6_isTidier 18 = .ok (.getfield 74, 3) := by decide +kernel
theorem dX6_isTidier_21 : decode cX6_isTidier 21 = .ok (.if_icmp .ge 7, 3) := by decide +kernel
theorem dX6_isTidier_24 : decode cX6_isTidier 24 = .ok (.iconst 1, 1) := by decide +kernel
theorem dX6_isTidier_25 : decode cX6_isTidier 25 = .ok (.goto 4, 3) := by decide +kernel
theorem dX6_isTidier_28 : decode cX6_isTidier 28 = .ok (.iconst 0, 1) := by decide +kernel
theorem dX6_isTidier_29 : decode cX6_isTidier 29 = .ok (.ireturn, 1) := by decide +kernel
theorem dX6_keep_0 : decode cX6_keep 0 = .ok (.iconst 0, 1) := by decide +kernel
theorem dX6_keep_1 : decode cX6_keep 1 = .ok (.istore 4, 2) := by decide +kernel
theorem dX6_keep_3 : decode cX6_keep 3 = .ok (.iload 4, 2) := by decide +kernel
theorem dX6_keep_5 : decode cX6_keep 5 = .ok (.aload_n 0, 1) := by decide +kernel
theorem dX6_keep_6 : decode cX6_keep 6 = .ok (.getfield 30, 3) := by decide +kernel
theorem dX6_keep_9 : decode cX6_keep 9 = .ok (.invokevirtual 99, 3) := by decide +kernel
theorem dX6_keep_12 : decode cX6_keep 12 = .ok (.if_icmp .ge 24, 3) := by decide +kernel
theorem dX6_keep_15 : decode cX6_keep 15 = .ok (.aload_n 0, 1) := by decide +kernel
theorem dX6_keep_16 : decode cX6_keep 16 = .ok (.getfield 40, 3) := by decide +kernel
theorem dX6_keep_19 : decode cX6_keep 19 = .ok (.iload 4, 2) := by decide +kernel
theorem dX6_keep_21 : decode cX6_keep 21 = .ok (.aload_n 1, 1) := by decide +kernel
theorem dX6_keep_22 : decode cX6_keep 22 = .ok (.iload 4, 2) := by decide +kernel
theorem dX6_keep_24 : decode cX6_keep 24 = .ok (.invokevirtual 77, 3) := by decide +kernel
theorem dX6_keep_27 : decode cX6_keep 27 = .ok (.invokevirtual 112, 3) := by decide +kernel
theorem dX6_keep_30 : decode cX6_keep 30 = .ok (.iinc 4 1, 3) := by decide +kernel
theorem dX6_keep_33 : decode cX6_keep 33 = .ok (.goto (-30), 3) := by decide +kernel
theorem dX6_keep_36 : decode cX6_keep 36 = .ok (.aload_n 0, 1) := by decide +kernel
theorem dX6_keep_37 : decode cX6_keep 37 = .ok (.iload_n 2, 1) := by decide +kernel
theorem dX6_keep_38 : decode cX6_keep 38 = .ok (.putfield 70, 3) := by decide +kernel
theorem dX6_keep_41 : decode cX6_keep 41 = .ok (.aload_n 0, 1) := by decide +kernel
theorem dX6_keep_42 : decode cX6_keep 42 = .ok (.iload_n 3, 1) := by decide +kernel
theorem dX6_keep_43 : decode cX6_keep 43 = .ok (.putfield 74, 3) := by decide +kernel
theorem dX6_keep_46 : decode cX6_keep 46 = .ok (.return_, 1) := by decide +kernel
theorem dX6_greatestStrengthOfAll_0 : decode cX6_greatestStrengthOfAll 0 = .ok (.iconst 1, 1) := by decide +kernel
theorem dX6_greatestStrengthOfAll_1 : decode cX6_greatestStrengthOfAll 1 = .ok (.istore_n 1, 1) := by decide +kernel
theorem dX6_greatestStrengthOfAll_2 : decode cX6_greatestStrengthOfAll 2 = .ok (.iconst 0, 1) := by decide +kernel
theorem dX6_greatestStrengthOfAll_3 : decode cX6_greatestStrengthOfAll 3 = .ok (.istore_n 2, 1) := by decide +kernel
theorem dX6_greatestStrengthOfAll_4 : decode cX6_greatestStrengthOfAll 4 = .ok (.iload_n 2, 1) := by decide +kernel
theorem dX6_greatestStrengthOfAll_5 : decode cX6_greatestStrengthOfAll 5 = .ok (.aload_n 0, 1) := by decide +kernel
theorem dX6_greatestStrengthOfAll_6 : decode cX6_greatestStrengthOfAll 6 = .ok (.getfield 30, 3) := by decide +kernel
theorem dX6_greatestStrengthOfAll_9 : decode cX6_greatestStrengthOfAll 9 = .ok (.invokevirtual 99, 3) := by decide +kernel
theorem dX6_greatestStrengthOfAll_12 : decode cX6_greatestStrengthOfAll 12 = .ok (.if_icmp .ge 26, 3) := by decide +kernel
theorem dX6_greatestStrengthOfAll_15 : decode cX6_greatestStrengthOfAll 15 = .ok (.iload_n 1, 1) := by decide +kernel
theorem dX6_greatestStrengthOfAll_16 : decode cX6_greatestStrengthOfAll 16 = .ok (.aload_n 0, 1) := by decide +kernel
theorem dX6_greatestStrengthOfAll_17 : decode cX6_greatestStrengthOfAll 17 = .ok (.getfield 12, 3) := by decide +kernel
theorem dX6_greatestStrengthOfAll_20 : decode cX6_greatestStrengthOfAll 20 = .ok (.iload_n 2, 1) := by decide +kernel
theorem dX6_greatestStrengthOfAll_21 : decode cX6_greatestStrengthOfAll 21 = .ok (.invokevirtual 102, 3) := by decide +kernel
theorem dX6_greatestStrengthOfAll_24 : decode cX6_greatestStrengthOfAll 24 = .ok (.imul, 1) := by decide +kernel
theorem dX6_greatestStrengthOfAll_25 : decode cX6_greatestStrengthOfAll 25 = .ok (.istore_n 1, 1) := by decide +kernel
theorem dX6_greatestStrengthOfAll_26 : decode cX6_greatestStrengthOfAll 26 = .ok (.aload_n 0, 1) := by decide +kernel
theorem dX6_greatestStrengthOfAll_27 : decode cX6_greatestStrengthOfAll 27 = .ok (.iload_n 2, 1) := by decide +kernel
theorem dX6_greatestStrengthOfAll_28 : decode cX6_greatestStrengthOfAll 28 = .ok (.iconst 0, 1) := by decide +kernel
theorem dX6_greatestStrengthOfAll_29 : decode cX6_greatestStrengthOfAll 29 = .ok (.invokevirtual 125, 3) := by decide +kernel
theorem dX6_greatestStrengthOfAll_32 : decode cX6_greatestStrengthOfAll 32 = .ok (.iinc 2 1, 3) := by decide +kernel
theorem dX6_greatestStrengthOfAll_35 : decode cX6_greatestStrengthOfAll 35 = .ok (.goto (-31), 3) := by decide +kernel
theorem dX6_greatestStrengthOfAll_38 : decode cX6_greatestStrengthOfAll 38 = .ok (.iconst 0, 1) := by decide +kernel
theorem dX6_greatestStrengthOfAll_39 : decode cX6_greatestStrengthOfAll 39 = .ok (.istore_n 2, 1) := by decide +kernel
theorem dX6_greatestStrengthOfAll_40 : decode cX6_greatestStrengthOfAll 40 = .ok (.iconst 0, 1) := by decide +kernel
theorem dX6_greatestStrengthOfAll_41 : decode cX6_greatestStrengthOfAll 41 = .ok (.istore_n 3, 1) := by decide +kernel
theorem dX6_greatestStrengthOfAll_42 : decode cX6_greatestStrengthOfAll 42 = .ok (.iload_n 3, 1) := by decide +kernel
theorem dX6_greatestStrengthOfAll_43 : decode cX6_greatestStrengthOfAll 43 = .ok (.iload_n 1, 1) := by decide +kernel
theorem dX6_greatestStrengthOfAll_44 : decode cX6_greatestStrengthOfAll 44 = .ok (.if_icmp .ge 47, 3) := by decide +kernel
theorem dX6_greatestStrengthOfAll_47 : decode cX6_greatestStrengthOfAll 47 = .ok (.aload_n 0, 1) := by decide +kernel
theorem dX6_greatestStrengthOfAll_48 : decode cX6_greatestStrengthOfAll 48 = .ok (.getfield 21, 3) := by decide +kernel
theorem dX6_greatestStrengthOfAll_51 : decode cX6_greatestStrengthOfAll 51 = .ok (.aload_n 0, 1) := by decide +kernel
theorem dX6_greatestStrengthOfAll_52 : decode cX6_greatestStrengthOfAll 52 = .ok (.getfield 34, 3) := by decide +kernel
theorem dX6_greatestStrengthOfAll_55 : decode cX6_greatestStrengthOfAll 55 = .ok (.iconst 0, 1) := by decide +kernel
theorem dX6_greatestStrengthOfAll_56 : decode cX6_greatestStrengthOfAll 56 = .ok (.iconst 4, 1) := by decide +kernel
theorem dX6_greatestStrengthOfAll_57 : decode cX6_greatestStrengthOfAll 57 = .ok (.invokevirtual 116, 3) := by decide +kernel
theorem dX6_greatestStrengthOfAll_60 : decode cX6_greatestStrengthOfAll 60 = .ok (.ifCond .eq 21, 3) := by decide +kernel
theorem dX6_greatestStrengthOfAll_63 : decode cX6_greatestStrengthOfAll 63 = .ok (.iload_n 2, 1) := by decide +kernel
theorem dX6_greatestStrengthOfAll_64 : decode cX6_greatestStrengthOfAll 64 = .ok (.aload_n 0, 1) := by decide +kernel
theorem dX6_greatestStrengthOfAll_65 : decode cX6_greatestStrengthOfAll 65 = .ok (.getfield 21, 3) := by decide +kernel
theorem dX6_greatestStrengthOfAll_68 : decode cX6_greatestStrengthOfAll 68 = .ok (.aload_n 0, 1) := by decide +kernel
theorem dX6_greatestStrengthOfAll_69 : decode cX6_greatestStrengthOfAll 69 = .ok (.getfield 34, 3) := by decide +kernel
theorem dX6_greatestStrengthOfAll_72 : decode cX6_greatestStrengthOfAll 72 = .ok (.iconst 0, 1) := by decide +kernel
theorem dX6_greatestStrengthOfAll_73 : decode cX6_greatestStrengthOfAll 73 = .ok (.iconst 4, 1) := by decide +kernel
theorem dX6_greatestStrengthOfAll_74 : decode cX6_greatestStrengthOfAll 74 = .ok (.invokevirtual 80, 3) := by decide +kernel
theorem dX6_greatestStrengthOfAll_77 : decode cX6_greatestStrengthOfAll 77 = .ok (.invokestatic 128, 3) := by decide +kernel
theorem dX6_greatestStrengthOfAll_80 : decode cX6_greatestStrengthOfAll 80 = .ok (.istore_n 2, 1) := by decide +kernel
theorem dX6_greatestStrengthOfAll_81 : decode cX6_greatestStrengthOfAll 81 = .ok (.aload_n 0, 1) := by decide +kernel
theorem dX6_greatestStrengthOfAll_82 : decode cX6_greatestStrengthOfAll 82 = .ok (.invokevirtual 131, 3) := by decide +kernel
theorem dX6_greatestStrengthOfAll_85 : decode cX6_greatestStrengthOfAll 85 = .ok (.iinc 3 1, 3) := by decide +kernel
theorem dX6_greatestStrengthOfAll_88 : decode cX6_greatestStrengthOfAll 88 = .ok (.goto (-46), 3) := by decide +kernel
theorem dX6_greatestStrengthOfAll_91 : decode cX6_greatestStrengthOfAll 91 = .ok (.iload_n 2, 1) := by decide +kernel
theorem dX6_greatestStrengthOfAll_92 : decode cX6_greatestStrengthOfAll 92 = .ok (.ireturn, 1) := by decide +kernel
theorem dX6_pickNextLayout_0 : decode cX6_pickNextLayout 0 = .ok (.iconst 1, 1) := by decide +kernel
theorem dX6_pickNextLayout_1 : decode cX6_pickNextLayout 1 = .ok (.istore_n 1, 1) := by decide +kernel
theorem dX6_pickNextLayout_2 : decode cX6_pickNextLayout 2 = .ok (.iconst 0, 1) := by decide +kernel
theorem dX6_pickNextLayout_3 : decode cX6_pickNextLayout 3 = .ok (.istore_n 2, 1) := by decide +kernel
theorem dX6_pickNextLayout_4 : decode cX6_pickNextLayout 4 = .ok (.iload_n 2, 1) := by decide +kernel
theorem dX6_pickNextLayout_5 : decode cX6_pickNextLayout 5 = .ok (.aload_n 0, 1) := by decide +kernel
theorem dX6_pickNextLayout_6 : decode cX6_pickNextLayout 6 = .ok (.getfield 30, 3) := by decide +kernel
theorem dX6_pickNextLayout_9 : decode cX6_pickNextLayout 9 = .ok (.invokevirtual 99, 3) := by decide +kernel
theorem dX6_pickNextLayout_12 : decode cX6_pickNextLayout 12 = .ok (.if_icmp .ge 56, 3) := by decide +kernel
theorem dX6_pickNextLayout_15 : decode cX6_pickNextLayout 15 = .ok (.iload_n 1, 1) := by decide +kernel
theorem dX6_pickNextLayout_16 : decode cX6_pickNextLayout 16 = .ok (.ifCond .eq 52, 3) := by decide +kernel
theorem dX6_pickNextLayout_19 : decode cX6_pickNextLayout 19 = .ok (.aload_n 0, 1) := by decide +kernel
theorem dX6_pickNextLayout_20 : decode cX6_pickNextLayout 20 = .ok (.getfield 37, 3) := by decide +kernel
theorem dX6_pickNextLayout_23 : decode cX6_pickNextLayout 23 = .ok (.iload_n 2, 1) := by decide +kernel
theorem dX6_pickNextLayout_24 : decode cX6_pickNextLayout 24 = .ok (.invokevirtual 77, 3) := by decide +kernel
theorem dX6_pickNextLayout_27 : decode cX6_pickNextLayout 27 = .ok (.iconst 1, 1) := by decide +kernel
theorem dX6_pickNextLayout_28 : decode cX6_pickNextLayout 28 = .ok (.iadd, 1) := by decide +kernel
theorem dX6_pickNextLayout_29 : decode cX6_pickNextLayout 29 = .ok (.istore_n 3, 1) := by decide +kernel
theorem dX6_pickNextLayout_30 : decode cX6_pickNextLayout 30 = .ok (.iload_n 3, 1) := by decide +kernel
theorem dX6_pickNextLayout_31 : decode cX6_pickNextLayout 31 = .ok (.aload_n 0, 1) := by decide +kernel
theorem dX6_pickNextLayout_32 : decode cX6_pickNextLayout 32 = .ok (.getfield 12, 3) := by decide +kernel
theorem dX6_pickNextLayout_35 : decode cX6_pickNextLayout 35 = .ok (.iload_n 2, 1) := by decide +kernel
theorem dX6_pickNextLayout_36 : decode cX6_pickNextLayout 36 = .ok (.invokevirtual 102, 3) := by decide +kernel
theorem dX6_pickNextLayout_39 : decode cX6_pickNextLayout 39 = .ok (.if_icmp .lt 7, 3) := by decide +kernel
theorem dX6_pickNextLayout_42 : decode cX6_pickNextLayout 42 = .ok (.iconst 1, 1) := by decide +kernel
theorem dX6_pickNextLayout_43 : decode cX6_pickNextLayout 43 = .ok (.goto 4, 3) := by decide +kernel
theorem dX6_pickNextLayout_46 : decode cX6_pickNextLayout 46 = .ok (.iconst 0, 1) := by decide +kernel
theorem dX6_pickNextLayout_47 : decode cX6_pickNextLayout 47 = .ok (.istore_n 1, 1) := by decide +kernel
theorem dX6_pickNextLayout_48 : decode cX6_pickNextLayout 48 = .ok (.aload_n 0, 1) := by decide +kernel
theorem dX6_pickNextLayout_49 : decode cX6_pickNextLayout 49 = .ok (.iload_n 2, 1) := by decide +kernel
theorem dX6_pickNextLayout_50 : decode cX6_pickNextLayout 50 = .ok (.iload_n 1, 1) := by decide +kernel
theorem dX6_pickNextLayout_51 : decode cX6_pickNextLayout 51 = .ok (.ifCond .eq 7, 3) := by decide +kernel
theorem dX6_pickNextLayout_54 : decode cX6_pickNextLayout 54 = .ok (.iconst 0, 1) := by decide +kernel
theorem dX6_pickNextLayout_55 : decode cX6_pickNextLayout 55 = .ok (.goto 4, 3) := by decide +kernel
theorem dX6_pickNextLayout_58 : decode cX6_pickNextLayout 58 = .ok (.iload_n 3, 1) := by decide +kernel
theorem dX6_pickNextLayout_59 : decode cX6_pickNextLayout 59 = .ok (.invokevirtual 125, 3) := by decide +kernel
theorem dX6_pickNextLayout_62 : decode cX6_pickNextLayout 62 = .ok (.iinc 2 1, 3) := by decide +kernel
theorem dX6_pickNextLayout_65 : decode cX6_pickNextLayout 65 = .ok (.goto (-61), 3) := by decide +kernel
theorem dX6_pickNextLayout_68 : decode cX6_pickNextLayout 68 = .ok (.return_, 1) := by decide +kernel
theorem dX6_pick_0 : decode cX6_pick 0 = .ok (.aload_n 0, 1) := by decide +kernel
theorem dX6_pick_1 : decode cX6_pick 1 = .ok (.getfield 37, 3) := by decide +kernel
theorem dX6_pick_4 : decode cX6_pick 4 = .ok (.iload_n 1, 1) := by decide +kernel
theorem dX6_pick_5 : decode cX6_pick 5 = .ok (.iload_n 2, 1) := by decide +kernel
theorem dX6_pick_6 : decode cX6_pick 6 = .ok (.invokevirtual 112, 3) := by decide +kernel
theorem dX6_pick_9 : decode cX6_pick 9 = .ok (.aload_n 0, 1) := by decide +kernel
theorem dX6_pick_10 : decode cX6_pick 10 = .ok (.getfield 34, 3) := by decide +kernel
theorem dX6_pick_13 : decode cX6_pick 13 = .ok (.iload_n 1, 1) := by decide +kernel
theorem dX6_pick_14 : decode cX6_pick 14 = .ok (.aload_n 0, 1) := by decide +kernel
theorem dX6_pick_15 : decode cX6_pick 15 = .ok (.getfield 12, 3) := by decide +kernel
theorem dX6_pick_18 : decode cX6_pick 18 = .ok (.iload_n 1, 1) := by decide +kernel
theorem dX6_pick_19 : decode cX6_pick 19 = .ok (.iload_n 2, 1) := by decide +kernel
theorem dX6_pick_20 : decode cX6_pick 20 = .ok (.invokevirtual 104, 3) := by decide +kernel
theorem dX6_pick_23 : decode cX6_pick 23 = .ok (.invokevirtual 112, 3) := by decide +kernel
theorem dX6_pick_26 : decode cX6_pick 26 = .ok (.return_, 1) := by decide +kernel
