theorem dX2_init_0 : decode cX2_init 0 = .ok (.aload_n 0, 1) := by decide +kernel
theorem dX2_init_1 : decode cX2_init 1 = .ok (.invokespecial 3, 3) := by decide +kernel
theorem dX2_init_4 : decode cX2_init 4 = .ok (.aload_n 0, 1) := by decide +kernel
theorem dX2_init_5 : decode cX2_init 5 = .ok (.new 9, 3) := by decide +kernel
theorem dX2_init_8 : decode cX2_init 8 = .ok (.dup, 1) := by decide +kernel
theorem dX2_init_9 : decode cX2_init 9 = .ok (.iconst 4, 1) := by decide +kernel
theorem dX2_init_10 : decode cX2_init 10 = .ok (.invokespecial 11, 3) := by decide +kernel
theorem dX2_init_13 : decode cX2_init 13 = .ok (.putfield 14, 3) := by decide +kernel
theorem dX2_init_16 : decode cX2_init 16 = .ok (.aload_n 0, 1) := by decide +kernel
theorem dX2_init_17 : decode cX2_init 17 = .ok (.new 9, 3) := by decide +kernel
theorem dX2_init_20 : decode cX2_init 20 = .ok (.dup, 1) := by decide +kernel
theorem dX2_init_21 : decode cX2_init 21 = .ok (.iconst 4, 1) := by decide +kernel
theorem dX2_init_22 : decode cX2_init 22 = .ok (.invokespecial 11, 3) := by decide +kernel
theorem dX2_init_25 : decode cX2_init 25 = .ok (.putfield 20, 3) := by decide +kernel
theorem dX2_init_28 : decode cX2_init 28 = .ok (.aload_n 0, 1) := by decide +kernel
theorem dX2_init_29 : decode cX2_init 29 = .ok (.new 9, 3) := by decide +kernel
theorem dX2_init_32 : decode cX2_init 32 = .ok (.dup, 1) := by decide +kernel
theorem dX2_init_33 : decode cX2_init 33 = .ok (.iconst 4, 1) := by decide +kernel
theorem dX2_init_34 : decode cX2_init 34 = .ok (.invokespecial 11, 3) := by decide +kernel
theorem dX2_init_37 : decode cX2_init 37 = .ok (.putfield 23, 3) := by decide +kernel
theorem dX2_init_40 : decode cX2_init 40 = .ok (.aload_n 0, 1) := by decide +kernel
theorem dX2_init_41 : decode cX2_init 41 = .ok (.new 9, 3) := by decide +kernel
theorem dX2_init_44 : decode cX2_init 44 = .ok (.dup, 1) := by decide +kernel
theorem dX2_init_45 : decode cX2_init 45 = .ok (.iconst 4, 1) := by decide +kernel
theorem dX2_init_46 : decode cX2_init 46 = .ok (.invokespecial 11, 3) := by decide +kernel
theorem dX2_init_49 : decode cX2_init 49 = .ok (.putfield 26, 3) := by decide +kernel
theorem dX2_init_52 : decode cX2_init 52 = .ok (.aload_n 0, 1) := by decide +kernel
theorem dX2_init_53 : decode cX2_init 53 = .ok (.new 9, 3) := by decide +kernel
theorem dX2_init_56 : decode cX2_init 56 = .ok (.dup, 1) := by decide +kernel
theorem dX2_init_57 : decode cX2_init 57 = .ok (.iconst 4, 1) := by decide +kernel
theorem dX2_init_58 : decode cX2_init 58 = .ok (.invokespecial 11, 3) := by decide +kernel
theorem dX2_init_61 : decode cX2_init 61 = .ok (.putfield 29, 3) := by decide +kernel
theorem dX2_init_64 : decode cX2_init 64 = .ok (.return_, 1) := by decide +kernel
theorem dX2_load_0 : decode cX2_load 0 = .ok (.aload_n 0, 1) := by decide +kernel
theorem dX2_load_1 : decode cX2_load 1 = .ok (.aload_n 1, 1) := by decide +kernel
theorem dX2_load_2 : decode cX2_load 2 = .ok (.invokevirtual 32, 3) := by decide +kernel
theorem dX2_load_5 : decode cX2_load 5 = .ok (.aload_n 0, 1) := by decide +kernel
theorem dX2_load_6 : decode cX2_load 6 = .ok (.getfield 20, 3) := by decide +kernel
theorem dX2_load_9 : decode cX2_load 9 = .ok (.invokevirtual 36, 3) := by decide +kernel
theorem dX2_load_12 : decode cX2_load 12 = .ok (.aload_n 0, 1) := by decide +kernel
theorem dX2_load_13 : decode cX2_load 13 = .ok (.getfield 23, 3) := by decide +kernel
theorem dX2_load_16 : decode cX2_load 16 = .ok (.invokevirtual 36, 3) := by decide +kernel
theorem dX2_load_19 : decode cX2_load 19 = .ok (.aload_n 0, 1) := by decide +kernel
theorem dX2_load_20 : decode cX2_load 20 = .ok (.getfield 26, 3) := by decide +kernel
theorem dX2_load_23 : decode cX2_load 23 = .ok (.invokevirtual 36, 3) := by decide +kernel
theorem dX2_load_26 : decode cX2_load 26 = .ok (.iconst 0, 1) := by decide +kernel
theorem dX2_load_27 : decode cX2_load 27 = .ok (.istore_n 3, 1) := by decide +kernel
theorem dX2_load_28 : decode cX2_load 28 = .ok (.iconst 0, 1) := by decide +kernel
theorem dX2_load_29 : decode cX2_load 29 = .ok (.istore 4, 2) := by decide +kernel
theorem dX2_load_31 : decode cX2_load 31 = .ok (.iload 4, 2) := by decide +kernel
theorem dX2_load_33 : decode cX2_load 33 = .ok (.aload_n 0, 1) := by decide +kernel
theorem dX2_load_34 : decode cX2_load 34 = .ok (.getfield 14, 3) := by decide +kernel
theorem dX2_load_37 : decode cX2_load 37 = .ok (.invokevirtual 39, 3) := by decide +kernel
theorem dX2_load_40 : decode cX2_load 40 = .ok (.if_icmp .ge 63, 3) := by decide +kernel
theorem dX2_load_43 : decode cX2_load 43 = .ok (.aload_n 0, 1) := by decide +kernel
theorem dX2_load_44 : decode cX2_load 44 = .ok (.getfield 14, 3) := by decide +kernel
theorem dX2_load_47 : decode cX2_load 47 = .ok (.iload 4, 2) := by decide +kernel
theorem dX2_load_49 : decode cX2_load 49 = .ok (.invokevirtual 43, 3) := by decide +kernel
theorem dX2_load_52 : decode cX2_load 52 = .ok (.istore 5, 2) := by decide +kernel
theorem dX2_load_54 : decode cX2_load 54 = .ok (.aload_n 0, 1) := by decide +kernel
theorem dX2_load_55 : decode cX2_load 55 = .ok (.getfield 20, 3) := by decide +kernel
theorem dX2_load_58 : decode cX2_load 58 = .ok (.aload_n 1, 1) := by decide +kernel
theorem dX2_load_59 : decode cX2_load 59 = .ok (.iload 5, 2) := by decide +kernel
theorem dX2_load_61 : decode cX2_load 61 = .ok (.invokevirtual 47, 3) := by decide +kernel
theorem dX2_load_64 : decode cX2_load 64 = .ok (.invokevirtual 52, 3) := by decide +kernel
theorem dX2_load_67 : decode cX2_load 67 = .ok (.aload_n 0, 1) := by decide +kernel
theorem dX2_load_68 : decode cX2_load 68 = .ok (.getfield 23, 3) := by decide +kernel
theorem dX2_load_71 : decode cX2_load 71 = .ok (.iload_n 3, 1) := by decide +kernel
theorem dX2_load_72 : decode cX2_load 72 = .ok (.invokevirtual 52, 3) := by decide +kernel
theorem dX2_load_75 : decode cX2_load 75 = .ok (.aload_n 0, 1) := by decide +kernel
theorem dX2_load_76 : decode cX2_load 76 = .ok (.getfield 26, 3) := by decide +kernel
theorem dX2_load_79 : decode cX2_load 79 = .ok (.aload_n 2, 1) := by decide +kernel
theorem dX2_load_80 : decode cX2_load 80 = .ok (.iload 5, 2) := by decide +kernel
theorem dX2_load_82 : decode cX2_load 82 = .ok (.invokevirtual 43, 3) := by decide +kernel
theorem dX2_load_85 : decode cX2_load 85 = .ok (.invokevirtual 52, 3) := by decide +kernel
theorem dX2_load_88 : decode cX2_load 88 = .ok (.iload_n 3, 1) := by decide +kernel
theorem dX2_load_89 : decode cX2_load 89 = .ok (.aload_n 1, 1) := by decide +kernel
theorem dX2_load_90 : decode cX2_load 90 = .ok (.iload 5, 2) := by decide +kernel
theorem dX2_load_92 : decode cX2_load 92 = .ok (.invokevirtual 55, 3) := by decide +kernel
theorem dX2_load_95 : decode cX2_load 95 = .ok (.iadd, 1) := by decide +kernel
theorem dX2_load_96 : decode cX2_load 96 = .ok (.istore_n 3, 1) := by decide +kernel
theorem dX2_load_97 : decode cX2_load 97 = .ok (.iinc 4 1, 3) := by decide +kernel
theorem dX2_load_100 : decode cX2_load 100 = .ok (.goto (-69), 3) := by decide +kernel
theorem dX2_load_103 : decode cX2_load 103 = .ok (.aload_n 0, 1) := by decide +kernel
theorem dX2_load_104 : decode cX2_load 104 = .ok (.aload_n 1, 1) := by decide +kernel
theorem dX2_load_105 : decode cX2_load 105 = .ok (.invokevirtual 58, 3) := by decide +kernel
theorem dX2_load_108 : decode cX2_load 108 = .ok (.iload_n 3, 1) := by decide +kernel
theorem dX2_load_109 : decode cX2_load 109 = .ok (.isub, 1) := by decide +kernel
theorem dX2_load_110 : decode cX2_load 110 = .ok (.putfield 61, 3) := by decide +kernel
theorem dX2_load_113 : decode cX2_load 113 = .ok (.return_, 1) := by decide +kernel
theorem dX2_listOrder_0 : decode cX2_listOrder 0 = .ok (.aload_n 0, 1) := by decide +kernel
theorem dX2_listOrder_1 : decode cX2_listOrder 1 = .ok (.getfield 14, 3) := by decide +kernel
theorem dX2_listOrder_4 : decode cX2_listOrder 4 = .ok (.invokevirtual 36, 3) := by decide +kernel
theorem dX2_listOrder_7 : decode cX2_listOrder 7 = .ok (.iconst 0, 1) := by decide +kernel
theorem dX2_listOrder_8 : decode cX2_listOrder 8 = .ok (.istore_n 2, 1) := by decide +kernel
theorem dX2_listOrder_9 : decode cX2_listOrder 9 = .ok (.iload_n 2, 1) := by decide +kernel
theorem dX2_listOrder_10 : decode cX2_listOrder 10 = .ok (.aload_n 1, 1) := by decide +kernel
theorem dX2_listOrder_11 : decode cX2_listOrder 11 = .ok (.invokevirtual 65, 3) := by decide +kernel
theorem dX2_listOrder_14 : decode cX2_listOrder 14 = .ok (.if_icmp .ge 25, 3) := by decide +kernel
theorem dX2_listOrder_17 : decode cX2_listOrder 17 = .ok (.aload_n 0, 1) := by decide +kernel
theorem dX2_listOrder_18 : decode cX2_listOrder 18 = .ok (.getfield 14, 3) := by decide +kernel
theorem dX2_listOrder_21 : decode cX2_listOrder 21 = .ok (.aload_n 1, 1) := by decide +kernel
theorem dX2_listOrder_22 : decode cX2_listOrder 22 = .ok (.iload_n 2, 1) := by decide +kernel
theorem dX2_listOrder_23 : decode cX2_listOrder 23 = .ok (.invokevirtual 47, 3) := by decide +kernel
theorem dX2_listOrder_26 : decode cX2_listOrder 26 = .ok (.iconst 4, 1) := by decide +kernel
theorem dX2_listOrder_27 : decode cX2_listOrder 27 = .ok (.imul, 1) := by decide +kernel
theorem dX2_listOrder_28 : decode cX2_listOrder 28 = .ok (.iload_n 2, 1) := by decide +kernel
theorem dX2_listOrder_29 : decode cX2_listOrder 29 = .ok (.iadd, 1) := by decide +kernel
theorem dX2_listOrder_30 : decode cX2_listOrder 30 = .ok (.invokevirtual 68, 3) := by decide +kernel
theorem dX2_listOrder_33 : decode cX2_listOrder 33 = .ok (.iinc 2 1, 3) := by decide +kernel
theorem dX2_listOrder_36 : decode cX2_listOrder 36 = .ok (.goto (-27), 3) := by decide +kernel
theorem dX2_listOrder_39 : decode cX2_listOrder 39 = .ok (.iconst 0, 1) := by decide +kernel
theorem dX2_listOrder_40 : decode cX2_listOrder 40 = .ok (.istore_n 2, 1) := by decide +kernel
theorem dX2_listOrder_41 : decode cX2_listOrder 41 = .ok (.iload_n 2, 1) := by decide +kernel
theorem dX2_listOrder_42 : decode cX2_listOrder 42 = .ok (.aload_n 0, 1) := by decide +kernel
theorem dX2_listOrder_43 : decode cX2_listOrder 43 = .ok (.getfield 14, 3) := by decide +kernel
theorem dX2_listOrder_46 : decode cX2_listOrder 46 = .ok (.invokevirtual 39, 3) := by decide +kernel
theorem dX2_listOrder_49 : decode cX2_listOrder 49 = .ok (.if_icmp .ge 27, 3) := by decide +kernel
theorem dX2_listOrder_52 : decode cX2_listOrder 52 = .ok (.aload_n 0, 1) := by decide +kernel
theorem dX2_listOrder_53 : decode cX2_listOrder 53 = .ok (.getfield 14, 3) := by decide +kernel
theorem dX2_listOrder_56 : decode cX2_listOrder 56 = .ok (.iload_n 2, 1) := by decide +kernel
theorem dX2_listOrder_57 : decode cX2_listOrder 57 = .ok (.aload_n 0, 1) := by decide +kernel
theorem dX2_listOrder_58 : decode cX2_listOrder 58 = .ok (.getfield 14, 3) := by decide +kernel
theorem dX2_listOrder_61 : decode cX2_listOrder 61 = .ok (.iload_n 2, 1) := by decide +kernel
theorem dX2_listOrder_62 : decode cX2_listOrder 62 = .ok (.invokevirtual 43, 3) := by decide +kernel
theorem dX2_listOrder_65 : decode cX2_listOrder 65 = .ok (.iconst 4, 1) := by decide +kernel
theorem dX2_listOrder_66 : decode cX2_listOrder 66 = .ok (.irem, 1) := by decide +kernel
theorem dX2_listOrder_67 : decode cX2_listOrder 67 = .ok (.invokevirtual 71, 3) := by decide +kernel
theorem dX2_listOrder_70 : decode cX2_listOrder 70 = .ok (.iinc 2 1, 3) := by decide +kernel
theorem dX2_listOrder_73 : decode cX2_listOrder 73 = .ok (.goto (-32), 3) := by decide +kernel
theorem dX2_listOrder_76 : decode cX2_listOrder 76 = .ok (.return_, 1) := by decide +kernel
theorem dX2_foundCost_0 : decode cX2_foundCost 0 = .ok (.aload_n 0, 1) := by decide +kernel
theorem dX2_foundCost_1 : decode cX2_foundCost 1 = .ok (.getfield 75, 3) := by decide +kernel
theorem dX2_foundCost_4 : decode cX2_foundCost 4 = .ok (.ireturn, 1) := by decide +kernel
theorem dX2_foundGap_0 : decode cX2_foundGap 0 = .ok (.aload_n 0, 1) := by decide +kernel
theorem dX2_foundGap_1 : decode cX2_foundGap 1 = .ok (.getfield 78, 3) := by decide +kernel
theorem dX2_foundGap_4 : decode cX2_foundGap 4 = .ok (.ireturn, 1) := by decide +kernel
theorem dX2_foundStart_0 : decode cX2_foundStart 0 = .ok (.aload_n 0, 1) := by decide +kernel
theorem dX2_foundStart_1 : decode cX2_foundStart 1 = .ok (.iload_n 1, 1) := by decide +kernel
theorem dX2_foundStart_2 : decode cX2_foundStart 2 = .ok (.aload_n 0, 1) := by decide +kernel
theorem dX2_foundStart_3 : decode cX2_foundStart 3 = .ok (.getfield 81, 3) := by decide +kernel
theorem dX2_foundStart_6 : decode cX2_foundStart 6 = .ok (.aload_n 0, 1) := by decide +kernel
theorem dX2_foundStart_7 : decode cX2_foundStart 7 = .ok (.getfield 78, 3) := by decide +kernel
theorem dX2_foundStart_10 : decode cX2_foundStart 10 = .ok (.invokevirtual 84, 3) := by decide +kernel
theorem dX2_foundStart_13 : decode cX2_foundStart 13 = .ok (.ireturn, 1) := by decide +kernel
theorem dX2_shapeInPlace_0 : decode cX2_shapeInPlace 0 = .ok (.aload_n 0, 1) := by decide +kernel
theorem dX2_shapeInPlace_1 : decode cX2_shapeInPlace 1 = .ok (.getfield 14, 3) := by decide +kernel
theorem dX2_shapeInPlace_4 : decode cX2_shapeInPlace 4 = .ok (.iload_n 1, 1) := by decide +kernel
theorem dX2_shapeInPlace_5 : decode cX2_shapeInPlace 5 = .ok (.invokevirtual 43, 3) := by decide +kernel
theorem dX2_shapeInPlace_8 : decode cX2_shapeInPlace 8 = .ok (.ireturn, 1) := by decide +kernel
theorem dX2_searchBestStarts_0 : decode cX2_searchBestStarts 0 = .ok (.aload_n 0, 1) := by decide +kernel
theorem dX2_searchBestStarts_1 : decode cX2_searchBestStarts 1 = .ok (.iconst (-1), 1) := by decide +kernel
theorem dX2_searchBestStarts_2 : decode cX2_searchBestStarts 2 = .ok (.putfield 75, 3) := by decide +kernel
theorem dX2_searchBestStarts_5 : decode cX2_searchBestStarts 5 = .ok (.iconst 0, 1) := by decide +kernel
theorem dX2_searchBestStarts_6 : decode cX2_searchBestStarts 6 = .ok (.istore_n 1, 1) := by decide +kernel
theorem dX2_searchBestStarts_7 : decode cX2_searchBestStarts 7 = .ok (.iload_n 1, 1) := by decide +kernel
theorem dX2_searchBestStarts_8 : decode cX2_searchBestStarts 8 = .ok (.aload_n 0, 1) := by decide +kernel
theorem dX2_searchBestStarts_9 : decode cX2_searchBestStarts 9 = .ok (.getfield 61, 3) := by decide +kernel
theorem dX2_searchBestStarts_12 : decode cX2_searchBestStarts 12 = .ok (.if_icmp .gt 37, 3) := by decide +kernel
theorem dX2_searchBestStarts_15 : decode cX2_searchBestStarts 15 = .ok (.aload_n 0, 1) := by decide +kernel
theorem dX2_searchBestStarts_16 : decode cX2_searchBestStarts 16 = .ok (.getfield 14, 3) := by decide +kernel
theorem dX2_searchBestStarts_19 : decode cX2_searchBestStarts 19 = .ok (.invokevirtual 39, 3) := by decide +kernel
theorem dX2_searchBestStarts_22 : decode cX2_searchBestStarts 22 = .ok (.iconst 2, 1) := by decide +kernel
theorem dX2_searchBestStarts_23 : decode cX2_searchBestStarts 23 = .ok (.if_icmp .lt 26, 3) := by decide +kernel
theorem dX2_searchBestStarts_26 : decode cX2_searchBestStarts 26 = .ok (.aload_n 0, 1) := by decide +kernel
theorem dX2_searchBestStarts_27 : decode cX2_searchBestStarts 27 = .ok (.iload_n 1, 1) := by decide +kernel
theorem dX2_searchBestStarts_28 : decode cX2_searchBestStarts 28 = .ok (.invokevirtual 88, 3) := by decide +kernel
theorem dX2_searchBestStarts_31 : decode cX2_searchBestStarts 31 = .ok (.istore_n 2, 1) := by decide +kernel
theorem dX2_searchBestStarts_32 : decode cX2_searchBestStarts 32 = .ok (.iload_n 2, 1) := by decide +kernel
theorem dX2_searchBestStarts_33 : decode cX2_searchBestStarts 33 = .ok (.iconst (-1), 1) := by decide +kernel
theorem dX2_searchBestStarts_34 : decode cX2_searchBestStarts 34 = .ok (.if_icmp .eq 9, 3) := by decide +kernel
theorem dX2_searchBestStarts_37 : decode cX2_searchBestStarts 37 = .ok (.aload_n 0, 1) := by decide +kernel
theorem dX2_searchBestStarts_38 : decode cX2_searchBestStarts 38 = .ok (.iload_n 2, 1) := by decide +kernel
theorem dX2_searchBestStarts_39 : decode cX2_searchBestStarts 39 = .ok (.iload_n 1, 1) := by decide +kernel
theorem dX2_searchBestStarts_40 : decode cX2_searchBestStarts 40 = .ok (.invokevirtual 91, 3) := by decide +kernel
theorem dX2_searchBestStarts_43 : decode cX2_searchBestStarts 43 = .ok (.iinc 1 1, 3) := by decide +kernel
theorem dX2_searchBestStarts_46 : decode cX2_searchBestStarts 46 = .ok (.goto (-39), 3) := by decide +kernel
theorem dX2_searchBestStarts_49 : decode cX2_searchBestStarts 49 = .ok (.return_, 1) := by decide +kernel
theorem dX2_searchAll_0 : decode cX2_searchAll 0 = .ok (.aload_n 0, 1) := by decide +kernel
theorem dX2_searchAll_1 : decode cX2_searchAll 1 = .ok (.iconst (-1), 1) := by decide +kernel
theorem dX2_searchAll_2 : decode cX2_searchAll 2 = .ok (.putfield 75, 3) := by decide +kernel
theorem dX2_searchAll_5 : decode cX2_searchAll 5 = .ok (.iconst 0, 1) := by decide +kernel
theorem dX2_searchAll_6 : decode cX2_searchAll 6 = .ok (.istore_n 1, 1) := by decide +kernel
theorem dX2_searchAll_7 : decode cX2_searchAll 7 = .ok (.iload_n 1, 1) := by decide +kernel
theorem dX2_searchAll_8 : decode cX2_searchAll 8 = .ok (.aload_n 0, 1) := by decide +kernel
theorem dX2_searchAll_9 : decode cX2_searchAll 9 = .ok (.getfield 61, 3) := by decide +kernel
theorem dX2_searchAll_12 : decode cX2_searchAll 12 = .ok (.if_icmp .gt 52, 3) := by decide +kernel
theorem dX2_searchAll_15 : decode cX2_searchAll 15 = .ok (.aload_n 0, 1) := by decide +kernel
theorem dX2_searchAll_16 : decode cX2_searchAll 16 = .ok (.getfield 14, 3) := by decide +kernel
theorem dX2_searchAll_19 : decode cX2_searchAll 19 = .ok (.invokevirtual 39, 3) := by decide +kernel
theorem dX2_searchAll_22 : decode cX2_searchAll 22 = .ok (.iconst 2, 1) := by decide +kernel
theorem dX2_searchAll_23 : decode cX2_searchAll 23 = .ok (.if_icmp .lt 41, 3) := by decide +kernel
theorem dX2_searchAll_26 : decode cX2_searchAll 26 = .ok (.iconst 0, 1) := by decide +kernel
theorem dX2_searchAll_27 : decode cX2_searchAll 27 = .ok (.istore_n 2, 1) := by decide +kernel
theorem dX2_searchAll_28 : decode cX2_searchAll 28 = .ok (.iload_n 2, 1) := by decide +kernel
theorem dX2_searchAll_29 : decode cX2_searchAll 29 = .ok (.aload_n 0, 1) := by decide +kernel
theorem dX2_searchAll_30 : decode cX2_searchAll 30 = .ok (.iload_n 1, 1) := by decide +kernel
theorem dX2_searchAll_31 : decode cX2_searchAll 31 = .ok (.invokevirtual 94, 3) := by decide +kernel
theorem dX2_searchAll_34 : decode cX2_searchAll 34 = .ok (.if_icmp .gt 24, 3) := by decide +kernel
theorem dX2_searchAll_37 : decode cX2_searchAll 37 = .ok (.aload_n 0, 1) := by decide +kernel
theorem dX2_searchAll_38 : decode cX2_searchAll 38 = .ok (.iload_n 2, 1) := by decide +kernel
theorem dX2_searchAll_39 : decode cX2_searchAll 39 = .ok (.iload_n 1, 1) := by decide +kernel
theorem dX2_searchAll_40 : decode cX2_searchAll 40 = .ok (.invokevirtual 97, 3) := by decide +kernel
theorem dX2_searchAll_43 : decode cX2_searchAll 43 = .ok (.ifCond .eq 9, 3) := by decide +kernel
theorem dX2_searchAll_46 : decode cX2_searchAll 46 = .ok (.aload_n 0, 1) := by decide +kernel
theorem dX2_searchAll_47 : decode cX2_searchAll 47 = .ok (.iload_n 2, 1) := by decide +kernel
theorem dX2_searchAll_48 : decode cX2_searchAll 48 = .ok (.iload_n 1, 1) := by decide +kernel
theorem dX2_searchAll_49 : decode cX2_searchAll 49 = .ok (.invokevirtual 91, 3) := by decide +kernel
theorem dX2_searchAll_52 : decode cX2_searchAll 52 = .ok (.iinc 2 1, 3) := by decide +kernel
theorem dX2_searchAll_55 : decode cX2_searchAll 55 = .ok (.goto (-27), 3) := by decide +kernel
theorem dX2_searchAll_58 : decode cX2_searchAll 58 = .ok (.iinc 1 1, 3) := by decide +kernel
theorem dX2_searchAll_61 : decode cX2_searchAll 61 = .ok (.goto (-54), 3) := by decide +kernel
theorem dX2_searchAll_64 : decode cX2_searchAll 64 = .ok (.return_, 1) := by decide +kernel
theorem dX2_compare_0 : decode cX2_compare 0 = .ok (.aload_n 0, 1) := by decide +kernel
theorem dX2_compare_1 : decode cX2_compare 1 = .ok (.iload_n 1, 1) := by decide +kernel
theorem dX2_compare_2 : decode cX2_compare 2 = .ok (.iload_n 2, 1) := by decide +kernel
theorem dX2_compare_3 : decode cX2_compare 3 = .ok (.invokevirtual 101, 3) := by decide +kernel
theorem dX2_compare_6 : decode cX2_compare 6 = .ok (.istore_n 3, 1) := by decide +kernel
theorem dX2_compare_7 : decode cX2_compare 7 = .ok (.aload_n 0, 1) := by decide +kernel
theorem dX2_compare_8 : decode cX2_compare 8 = .ok (.getfield 75, 3) := by decide +kernel
theorem dX2_compare_11 : decode cX2_compare 11 = .ok (.iconst (-1), 1) := by decide +kernel
theorem dX2_compare_12 : decode cX2_compare 12 = .ok (.if_icmp .eq 11, 3) := by decide +kernel
theorem dX2_compare_15 : decode cX2_compare 15 = .ok (.iload_n 3, 1) := by decide +kernel
theorem dX2_compare_16 : decode cX2_compare 16 = .ok (.aload_n 0, 1) := by decide +kernel
theorem dX2_compare_17 : decode cX2_compare 17 = .ok (.getfield 75, 3) := by decide +kernel
theorem dX2_compare_20 : decode cX2_compare 20 = .ok (.if_icmp .ge 18, 3) := by decide +kernel
theorem dX2_compare_23 : decode cX2_compare 23 = .ok (.aload_n 0, 1) := by decide +kernel
theorem dX2_compare_24 : decode cX2_compare 24 = .ok (.iload_n 3, 1) := by decide +kernel
theorem dX2_compare_25 : decode cX2_compare 25 = .ok (.putfield 75, 3) := by decide +kernel
theorem dX2_compare_28 : decode cX2_compare 28 = .ok (.aload_n 0, 1) := by decide +kernel
theorem dX2_compare_29 : decode cX2_compare 29 = .ok (.iload_n 2, 1) := by decide +kernel
theorem dX2_compare_30 : decode cX2_compare 30 = .ok (.putfield 78, 3) := by decide +kernel
theorem dX2_compare_33 : decode cX2_compare 33 = .ok (.aload_n 0, 1) := by decide +kernel
theorem dX2_compare_34 : decode cX2_compare 34 = .ok (.iload_n 1, 1) := by decide +kernel
theorem dX2_compare_35 : decode cX2_compare 35 = .ok (.putfield 81, 3) := by decide +kernel
theorem dX2_compare_38 : decode cX2_compare 38 = .ok (.return_, 1) := by decide +kernel
theorem dX2_lastStart_0 : decode cX2_lastStart 0 = .ok (.aload_n 0, 1) := by decide +kernel
theorem dX2_lastStart_1 : decode cX2_lastStart 1 = .ok (.getfield 61, 3) := by decide +kernel
theorem dX2_lastStart_4 : decode cX2_lastStart 4 = .ok (.iload_n 1, 1) := by decide +kernel
theorem dX2_lastStart_5 : decode cX2_lastStart 5 = .ok (.aload_n 0, 1) := by decide +kernel
theorem dX2_lastStart_6 : decode cX2_lastStart 6 = .ok (.getfield 14, 3) := by decide +kernel
theorem dX2_lastStart_9 : decode cX2_lastStart 9 = .ok (.invokevirtual 39, 3) := by decide +kernel
theorem dX2_lastStart_12 : decode cX2_lastStart 12 = .ok (.iconst 1, 1) := by decide +kernel
theorem dX2_lastStart_13 : decode cX2_lastStart 13 = .ok (.isub, 1) := by decide +kernel
theorem dX2_lastStart_14 : decode cX2_lastStart 14 = .ok (.imul, 1) := by decide +kernel
theorem dX2_lastStart_15 : decode cX2_lastStart 15 = .ok (.isub, 1) := by decide +kernel
theorem dX2_lastStart_16 : decode cX2_lastStart 16 = .ok (.ireturn, 1) := by decide +kernel
theorem dX2_startInPlace_0 : decode cX2_startInPlace 0 = .ok (.iload_n 2, 1) := by decide +kernel
theorem dX2_startInPlace_1 : decode cX2_startInPlace 1 = .ok (.aload_n 0, 1) := by decide +kernel
theorem dX2_startInPlace_2 : decode cX2_startInPlace 2 = .ok (.getfield 23, 3) := by decide +kernel
theorem dX2_startInPlace_5 : decode cX2_startInPlace 5 = .ok (.iload_n 1, 1) := by decide +kernel
theorem dX2_startInPlace_6 : decode cX2_startInPlace 6 = .ok (.invokevirtual 43, 3) := by decide +kernel
theorem dX2_startInPlace_9 : decode cX2_startInPlace 9 = .ok (.iadd, 1) := by decide +kernel
theorem dX2_startInPlace_10 : decode cX2_startInPlace 10 = .ok (.iload_n 3, 1) := by decide +kernel
theorem dX2_startInPlace_11 : decode cX2_startInPlace 11 = .ok (.iload_n 1, 1) := by decide +kernel
theorem dX2_startInPlace_12 : decode cX2_startInPlace 12 = .ok (.imul, 1) := by decide +kernel
theorem dX2_startInPlace_13 : decode cX2_startInPlace 13 = .ok (.iadd, 1) := by decide +kernel
theorem dX2_startInPlace_14 : decode cX2_startInPlace 14 = .ok (.ireturn, 1) := by decide +kernel
theorem dX2_costOf_0 : decode cX2_costOf 0 = .ok (.iconst 0, 1) := by decide +kernel
theorem dX2_costOf_1 : decode cX2_costOf 1 = .ok (.istore_n 3, 1) := by decide +kernel
theorem dX2_costOf_2 : decode cX2_costOf 2 = .ok (.iconst 0, 1) := by decide +kernel
theorem dX2_costOf_3 : decode cX2_costOf 3 = .ok (.istore 4, 2) := by decide +kernel
theorem dX2_costOf_5 : decode cX2_costOf 5 = .ok (.iload 4, 2) := by decide +kernel
theorem dX2_costOf_7 : decode cX2_costOf 7 = .ok (.aload_n 0, 1) := by decide +kernel
theorem dX2_costOf_8 : decode cX2_costOf 8 = .ok (.getfield 14, 3) := by decide +kernel
theorem dX2_costOf_11 : decode cX2_costOf 11 = .ok (.invokevirtual 39, 3) := by decide +kernel
theorem dX2_costOf_14 : decode cX2_costOf 14 = .ok (.if_icmp .ge 33, 3) := by decide +kernel
theorem dX2_costOf_17 : decode cX2_costOf 17 = .ok (.iload_n 3, 1) := by decide +kernel
theorem dX2_costOf_18 : decode cX2_costOf 18 = .ok (.aload_n 0, 1) := by decide +kernel
theorem dX2_costOf_19 : decode cX2_costOf 19 = .ok (.iload 4, 2) := by decide +kernel
theorem dX2_costOf_21 : decode cX2_costOf 21 = .ok (.iload_n 1, 1) := by decide +kernel
theorem dX2_costOf_22 : decode cX2_costOf 22 = .ok (.iload_n 2, 1) := by decide +kernel
theorem dX2_costOf_23 : decode cX2_costOf 23 = .ok (.invokevirtual 84, 3) := by decide +kernel
theorem dX2_costOf_26 : decode cX2_costOf 26 = .ok (.aload_n 0, 1) := by decide +kernel
theorem dX2_costOf_27 : decode cX2_costOf 27 = .ok (.getfield 20, 3) := by decide +kernel
theorem dX2_costOf_30 : decode cX2_costOf 30 = .ok (.iload 4, 2) := by decide +kernel
theorem dX2_costOf_32 : decode cX2_costOf 32 = .ok (.invokevirtual 43, 3) := by decide +kernel
theorem dX2_costOf_35 : decode cX2_costOf 35 = .ok (.isub, 1) := by decide +kernel
theorem dX2_costOf_36 : decode cX2_costOf 36 = .ok (.invokestatic 105, 3) := by decide +kernel
theorem dX2_costOf_39 : decode cX2_costOf 39 = .ok (.iadd, 1) := by decide +kernel
theorem dX2_costOf_40 : decode cX2_costOf 40 = .ok (.istore_n 3, 1) := by decide +kernel
theorem dX2_costOf_41 : decode cX2_costOf 41 = .ok (.iinc 4 1, 3) := by decide +kernel
theorem dX2_costOf_44 : decode cX2_costOf 44 = .ok (.goto (-39), 3) := by decide +kernel
theorem dX2_costOf_47 : decode cX2_costOf 47 = .ok (.iload_n 3, 1) := by decide +kernel
theorem dX2_costOf_48 : decode cX2_costOf 48 = .ok (.ireturn, 1) := by decide +kernel
theorem dX2_keepsLocks_0 : decode cX2_keepsLocks 0 = .ok (.iconst 0, 1) := by decide +kernel
theorem dX2_keepsLocks_1 : decode cX2_keepsLocks 1 = .ok (.istore_n 3, 1) := by decide +kernel
theorem dX2_keepsLocks_2 : decode cX2_keepsLocks 2 = .ok (.iload_n 3, 1) := by decide +kernel
theorem dX2_keepsLocks_3 : decode cX2_keepsLocks 3 = .ok (.aload_n 0, 1) := by decide +kernel
theorem dX2_keepsLocks_4 : decode cX2_keepsLocks 4 = .ok (.getfield 14, 3) := by decide +kernel
theorem dX2_keepsLocks_7 : decode cX2_keepsLocks 7 = .ok (.invokevirtual 39, 3) := by decide +kernel
theorem dX2_keepsLocks_10 : decode cX2_keepsLocks 10 = .ok (.if_icmp .ge 40, 3) := by decide +kernel
theorem dX2_keepsLocks_13 : decode cX2_keepsLocks 13 = .ok (.aload_n 0, 1) := by decide +kernel
theorem dX2_keepsLocks_14 : decode cX2_keepsLocks 14 = .ok (.getfield 26, 3) := by decide +kernel
theorem dX2_keepsLocks_17 : decode cX2_keepsLocks 17 = .ok (.iload_n 3, 1) := by decide +kernel
theorem dX2_keepsLocks_18 : decode cX2_keepsLocks 18 = .ok (.invokevirtual 43, 3) := by decide +kernel
theorem dX2_keepsLocks_21 : decode cX2_keepsLocks 21 = .ok (.ifCond .eq 23, 3) := by decide +kernel
theorem dX2_keepsLocks_24 : decode cX2_keepsLocks 24 = .ok (.aload_n 0, 1) := by decide +kernel
theorem dX2_keepsLocks_25 : decode cX2_keepsLocks 25 = .ok (.iload_n 3, 1) := by decide +kernel
theorem dX2_keepsLocks_26 : decode cX2_keepsLocks 26 = .ok (.iload_n 1, 1) := by decide +kernel
theorem dX2_keepsLocks_27 : decode cX2_keepsLocks 27 = .ok (.iload_n 2, 1) := by decide +kernel
theorem dX2_keepsLocks_28 : decode cX2_keepsLocks 28 = .ok (.invokevirtual 84, 3) := by decide +kernel
theorem dX2_keepsLocks_31 : decode cX2_keepsLocks 31 = .ok (.aload_n 0, 1) := by decide +kernel
theorem dX2_keepsLocks_32 : decode cX2_keepsLocks 32 = .ok (.getfield 20, 3) := by decide +kernel
theorem dX2_keepsLocks_35 : decode cX2_keepsLocks 35 = .ok (.iload_n 3, 1) := by decide +kernel
theorem dX2_keepsLocks_36 : decode cX2_keepsLocks 36 = .ok (.invokevirtual 43, 3) := by decide +kernel
theorem dX2_keepsLocks_39 : decode cX2_keepsLocks 39 = .ok (.if_icmp .eq 5, 3) := by decide +kernel
theorem dX2_keepsLocks_42 : decode cX2_keepsLocks 42 = .ok (.iconst 0, 1) := by decide +kernel
theorem dX2_keepsLocks_43 : decode cX2_keepsLocks 43 = .ok (.ireturn, 1) := by decide +kernel
theorem dX2_keepsLocks_44 : decode cX2_keepsLocks 44 = .ok (.iinc 3 1, 3) := by decide +kernel
theorem dX2_keepsLocks_47 : decode cX2_keepsLocks 47 = .ok (.goto (-45), 3) := by decide +kernel
theorem dX2_keepsLocks_50 : decode cX2_keepsLocks 50 = .ok (.iconst 1, 1) := by decide +kernel
theorem dX2_keepsLocks_51 : decode cX2_keepsLocks 51 = .ok (.ireturn, 1) := by decide +kernel
theorem dX2_bestStart_0 : decode cX2_bestStart 0 = .ok (.aload_n 0, 1) := by decide +kernel
theorem dX2_bestStart_1 : decode cX2_bestStart 1 = .ok (.iload_n 1, 1) := by decide +kernel
theorem dX2_bestStart_2 : decode cX2_bestStart 2 = .ok (.invokevirtual 94, 3) := by decide +kernel
theorem dX2_bestStart_5 : decode cX2_bestStart 5 = .ok (.ifCond .ge 5, 3) := by decide +kernel
theorem dX2_bestStart_8 : decode cX2_bestStart 8 = .ok (.iconst (-1), 1) := by decide +kernel
theorem dX2_bestStart_9 : decode cX2_bestStart 9 = .ok (.ireturn, 1) := by decide +kernel
theorem dX2_bestStart_10 : decode cX2_bestStart 10 = .ok (.aload_n 0, 1) := by decide +kernel
theorem dX2_bestStart_11 : decode cX2_bestStart 11 = .ok (.getfield 29, 3) := by decide +kernel
theorem dX2_bestStart_14 : decode cX2_bestStart 14 = .ok (.invokevirtual 36, 3) := by decide +kernel
theorem dX2_bestStart_17 : decode cX2_bestStart 17 = .ok (.iconst 0, 1) := by decide +kernel
theorem dX2_bestStart_18 : decode cX2_bestStart 18 = .ok (.istore_n 2, 1) := by decide +kernel
theorem dX2_bestStart_19 : decode cX2_bestStart 19 = .ok (.iload_n 2, 1) := by decide +kernel
theorem dX2_bestStart_20 : decode cX2_bestStart 20 = .ok (.aload_n 0, 1) := by decide +kernel
theorem dX2_bestStart_21 : decode cX2_bestStart 21 = .ok (.getfield 14, 3) := by decide +kernel
theorem dX2_bestStart_24 : decode cX2_bestStart 24 = .ok (.invokevirtual 39, 3) := by decide +kernel
theorem dX2_bestStart_27 : decode cX2_bestStart 27 = .ok (.if_icmp .ge 22, 3) := by decide +kernel
theorem dX2_bestStart_30 : decode cX2_bestStart 30 = .ok (.aload_n 0, 1) := by decide +kernel
theorem dX2_bestStart_31 : decode cX2_bestStart 31 = .ok (.getfield 29, 3) := by decide +kernel
theorem dX2_bestStart_34 : decode cX2_bestStart 34 = .ok (.aload_n 0, 1) := by decide +kernel
theorem dX2_bestStart_35 : decode cX2_bestStart 35 = .ok (.iload_n 2, 1) := by decide +kernel
theorem dX2_bestStart_36 : decode cX2_bestStart 36 = .ok (.iload_n 1, 1) := by decide +kernel
theorem dX2_bestStart_37 : decode cX2_bestStart 37 = .ok (.invokevirtual 110, 3) := by decide +kernel
theorem dX2_bestStart_40 : decode cX2_bestStart 40 = .ok (.invokevirtual 68, 3) := by decide +kernel
theorem dX2_bestStart_43 : decode cX2_bestStart 43 = .ok (.iinc 2 1, 3) := by decide +kernel
theorem dX2_bestStart_46 : decode cX2_bestStart 46 = .ok (.goto (-27), 3) := by decide +kernel
theorem dX2_bestStart_49 : decode cX2_bestStart 49 = .ok (.aload_n 0, 1) := by decide +kernel
theorem dX2_bestStart_50 : decode cX2_bestStart 50 = .ok (.getfield 29, 3) := by decide +kernel
theorem dX2_bestStart_53 : decode cX2_bestStart 53 = .ok (.aload_n 0, 1) := by decide +kernel
theorem dX2_bestStart_54 : decode cX2_bestStart 54 = .ok (.getfield 29, 3) := by decide +kernel
theorem dX2_bestStart_57 : decode cX2_bestStart 57 = .ok (.invokevirtual 39, 3) := by decide +kernel
theorem dX2_bestStart_60 : decode cX2_bestStart 60 = .ok (.iconst 1, 1) := by decide +kernel
theorem dX2_bestStart_61 : decode cX2_bestStart 61 = .ok (.isub, 1) := by decide +kernel
theorem dX2_bestStart_62 : decode cX2_bestStart 62 = .ok (.iconst 2, 1) := by decide +kernel
theorem dX2_bestStart_63 : decode cX2_bestStart 63 = .ok (.idiv, 1) := by decide +kernel
theorem dX2_bestStart_64 : decode cX2_bestStart 64 = .ok (.invokevirtual 43, 3) := by decide +kernel
theorem dX2_bestStart_67 : decode cX2_bestStart 67 = .ok (.istore_n 2, 1) := by decide +kernel
theorem dX2_bestStart_68 : decode cX2_bestStart 68 = .ok (.iconst 0, 1) := by decide +kernel
theorem dX2_bestStart_69 : decode cX2_bestStart 69 = .ok (.istore_n 3, 1) := by decide +kernel
theorem dX2_bestStart_70 : decode cX2_bestStart 70 = .ok (.iload_n 3, 1) := by decide +kernel
theorem dX2_bestStart_71 : decode cX2_bestStart 71 = .ok (.aload_n 0, 1) := by decide +kernel
theorem dX2_bestStart_72 : decode cX2_bestStart 72 = .ok (.getfield 14, 3) := by decide +kernel
theorem dX2_bestStart_75 : decode cX2_bestStart 75 = .ok (.invokevirtual 39, 3) := by decide +kernel
theorem dX2_bestStart_78 : decode cX2_bestStart 78 = .ok (.if_icmp .ge 27, 3) := by decide +kernel
theorem dX2_bestStart_81 : decode cX2_bestStart 81 = .ok (.aload_n 0, 1) := by decide +kernel
theorem dX2_bestStart_82 : decode cX2_bestStart 82 = .ok (.getfield 26, 3) := by decide +kernel
theorem dX2_bestStart_85 : decode cX2_bestStart 85 = .ok (.iload_n 3, 1) := by decide +kernel
theorem dX2_bestStart_86 : decode cX2_bestStart 86 = .ok (.invokevirtual 43, 3) := by decide +kernel
theorem dX2_bestStart_89 : decode cX2_bestStart 89 = .ok (.ifCond .eq 10, 3) := by decide +kernel
theorem dX2_bestStart_92 : decode cX2_bestStart 92 = .ok (.aload_n 0, 1) := by decide +kernel
theorem dX2_bestStart_93 : decode cX2_bestStart 93 = .ok (.iload_n 3, 1) := by decide +kernel
theorem dX2_bestStart_94 : decode cX2_bestStart 94 = .ok (.iload_n 1, 1) := by decide +kernel
theorem dX2_bestStart_95 : decode cX2_bestStart 95 = .ok (.invokevirtual 110, 3) := by decide +kernel
theorem dX2_bestStart_98 : decode cX2_bestStart 98 = .ok (.istore_n 2, 1) := by decide +kernel
theorem dX2_bestStart_99 : decode cX2_bestStart 99 = .ok (.iinc 3 1, 3) := by decide +kernel
theorem dX2_bestStart_102 : decode cX2_bestStart 102 = .ok (.goto (-32), 3) := by decide +kernel
theorem dX2_bestStart_105 : decode cX2_bestStart 105 = .ok (.iconst 0, 1) := by decide +kernel
theorem dX2_bestStart_106 : decode cX2_bestStart 106 = .ok (.iload_n 2, 1) := by decide +kernel
theorem dX2_bestStart_107 : decode cX2_bestStart 107 = .ok (.aload_n 0, 1) := by decide +kernel
theorem dX2_bestStart_108 : decode cX2_bestStart 108 = .ok (.iload_n 1, 1) := by decide +kernel
theorem dX2_bestStart_109 : decode cX2_bestStart 109 = .ok (.invokevirtual 94, 3) := by decide +kernel
theorem dX2_bestStart_112 : decode cX2_bestStart 112 = .ok (.invokestatic 113, 3) := by decide +kernel
theorem dX2_bestStart_115 : decode cX2_bestStart 115 = .ok (.invokestatic 116, 3) := by decide +kernel
theorem dX2_bestStart_118 : decode cX2_bestStart 118 = .ok (.istore_n 3, 1) := by decide +kernel
theorem dX2_bestStart_119 : decode cX2_bestStart 119 = .ok (.aload_n 0, 1) := by decide +kernel
theorem dX2_bestStart_120 : decode cX2_bestStart 120 = .ok (.iload_n 3, 1) := by decide +kernel
theorem dX2_bestStart_121 : decode cX2_bestStart 121 = .ok (.iload_n 1, 1) := by decide +kernel
theorem dX2_bestStart_122 : decode cX2_bestStart 122 = .ok (.invokevirtual 97, 3) := by decide +kernel
theorem dX2_bestStart_125 : decode cX2_bestStart 125 = .ok (.ifCond .eq 7, 3) := by decide +kernel
theorem dX2_bestStart_128 : decode cX2_bestStart 128 = .ok (.iload_n 3, 1) := by decide +kernel
theorem dX2_bestStart_129 : decode cX2_bestStart 129 = .ok (.goto 4, 3) := by decide +kernel
theorem dX2_bestStart_132 : decode cX2_bestStart 132 = .ok (.iconst (-1), 1) := by decide +kernel
theorem dX2_bestStart_133 : decode cX2_bestStart 133 = .ok (.ireturn, 1) := by decide +kernel
theorem dX2_stayOf_0 : decode cX2_stayOf 0 = .ok (.aload_n 0, 1) := by decide +kernel
theorem dX2_stayOf_1 : decode cX2_stayOf 1 = .ok (.getfield 20, 3) := by decide +kernel
theorem dX2_stayOf_4 : decode cX2_stayOf 4 = .ok (.iload_n 1, 1) := by decide +kernel
theorem dX2_stayOf_5 : decode cX2_stayOf 5 = .ok (.invokevirtual 43, 3) := by decide +kernel
theorem dX2_stayOf_8 : decode cX2_stayOf 8 = .ok (.aload_n 0, 1) := by decide +kernel
theorem dX2_stayOf_9 : decode cX2_stayOf 9 = .ok (.iload_n 1, 1) := by decide +kernel
theorem dX2_stayOf_10 : decode cX2_stayOf 10 = .ok (.iconst 0, 1) := by decide +kernel
theorem dX2_stayOf_11 : decode cX2_stayOf 11 = .ok (.iload_n 2, 1) := by decide +kernel
theorem dX2_stayOf_12 : decode cX2_stayOf 12 = .ok (.invokevirtual 84, 3) := by decide +kernel
theorem dX2_stayOf_15 : decode cX2_stayOf 15 = .ok (.isub, 1) := by decide +kernel
theorem dX2_stayOf_16 : decode cX2_stayOf 16 = .ok (.ireturn, 1) := by decide +kernel
